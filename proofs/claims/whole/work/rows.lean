section
-- ===== PART A: goes FIRST, ahead of the names: the tables' words, and 'selects' of the private methods out of them =====
/-- a private method of a class that the tables say can be made, by its rows of tables_1 -/
def lw_okq (q : MethodName × Nat) : Prop := (q.1.cls ≠ "java/lang/invoke/MethodHandle" ∧ q.1.cls ≠ "java/lang/invoke/VarHandle") ∧ Cond.instantiable q.1.cls q.2 ∈ tables_1 ∧ Cond.privateMethod q.1 ∈ tables_1 ∧ Cond.instanceMethod q.1 ∈ tables_1
theorem lw_p0 : lw_okq (⟨"ShiftMender", "layScript", "()I"⟩, 7) := ⟨⟨by decide +kernel, by decide +kernel⟩, List.mem_of_getElem? (i := 16) (by decide +kernel), List.mem_of_getElem? (i := 258) (by decide +kernel), List.mem_of_getElem? (i := 259) (by decide +kernel)⟩
theorem lw_p1 : lw_okq (⟨"ShiftMender$Script", "readItem", "(I)I"⟩, 3) := ⟨⟨by decide +kernel, by decide +kernel⟩, List.mem_of_getElem? (i := 24) (by decide +kernel), List.mem_of_getElem? (i := 272) (by decide +kernel), List.mem_of_getElem? (i := 273) (by decide +kernel)⟩
theorem lw_p2 : lw_okq (⟨"ShiftMender$Script", "readYears", "(I)I"⟩, 3) := ⟨⟨by decide +kernel, by decide +kernel⟩, List.mem_of_getElem? (i := 24) (by decide +kernel), List.mem_of_getElem? (i := 276) (by decide +kernel), List.mem_of_getElem? (i := 277) (by decide +kernel)⟩
theorem lw_p3 : lw_okq (⟨"ShiftMender$Script", "signAt", "(I)I"⟩, 3) := ⟨⟨by decide +kernel, by decide +kernel⟩, List.mem_of_getElem? (i := 24) (by decide +kernel), List.mem_of_getElem? (i := 280) (by decide +kernel), List.mem_of_getElem? (i := 281) (by decide +kernel)⟩
theorem lw_p4 : lw_okq (⟨"ShiftMender$Script", "endsAt", "(I)Z"⟩, 3) := ⟨⟨by decide +kernel, by decide +kernel⟩, List.mem_of_getElem? (i := 24) (by decide +kernel), List.mem_of_getElem? (i := 284) (by decide +kernel), List.mem_of_getElem? (i := 285) (by decide +kernel)⟩
theorem lw_p5 : lw_okq (⟨"ShiftMender$Script", "readStation", "(I)I"⟩, 3) := ⟨⟨by decide +kernel, by decide +kernel⟩, List.mem_of_getElem? (i := 24) (by decide +kernel), List.mem_of_getElem? (i := 296) (by decide +kernel), List.mem_of_getElem? (i := 297) (by decide +kernel)⟩
theorem lw_p6 : lw_okq (⟨"ShiftMender$Script", "readPenalty", "(I)I"⟩, 3) := ⟨⟨by decide +kernel, by decide +kernel⟩, List.mem_of_getElem? (i := 24) (by decide +kernel), List.mem_of_getElem? (i := 313) (by decide +kernel), List.mem_of_getElem? (i := 314) (by decide +kernel)⟩
theorem lw_p7 : lw_okq (⟨"ShiftMender$Script", "readRules", "(I)I"⟩, 3) := ⟨⟨by decide +kernel, by decide +kernel⟩, List.mem_of_getElem? (i := 24) (by decide +kernel), List.mem_of_getElem? (i := 321) (by decide +kernel), List.mem_of_getElem? (i := 322) (by decide +kernel)⟩
theorem lw_p8 : lw_okq (⟨"ShiftMender", "changeValue", "(III)Z"⟩, 7) := ⟨⟨by decide +kernel, by decide +kernel⟩, List.mem_of_getElem? (i := 16) (by decide +kernel), List.mem_of_getElem? (i := 428) (by decide +kernel), List.mem_of_getElem? (i := 429) (by decide +kernel)⟩
theorem lw_p9 : lw_okq (⟨"ShiftMender$History", "slot", "(I)I"⟩, 3) := ⟨⟨by decide +kernel, by decide +kernel⟩, List.mem_of_getElem? (i := 174) (by decide +kernel), List.mem_of_getElem? (i := 436) (by decide +kernel), List.mem_of_getElem? (i := 437) (by decide +kernel)⟩
theorem lw_p10 : lw_okq (⟨"ShiftMender$Records", "squaredDistance", "(II)I"⟩, 8) := ⟨⟨by decide +kernel, by decide +kernel⟩, List.mem_of_getElem? (i := 30) (by decide +kernel), List.mem_of_getElem? (i := 517) (by decide +kernel), List.mem_of_getElem? (i := 518) (by decide +kernel)⟩
theorem lw_p11 : lw_okq (⟨"ShiftMender", "areTwoStations", "(II)Z"⟩, 7) := ⟨⟨by decide +kernel, by decide +kernel⟩, List.mem_of_getElem? (i := 16) (by decide +kernel), List.mem_of_getElem? (i := 525) (by decide +kernel), List.mem_of_getElem? (i := 526) (by decide +kernel)⟩
theorem lw_p12 : lw_okq (⟨"ShiftMender$Series", "add", "(II)V"⟩, 5) := ⟨⟨by decide +kernel, by decide +kernel⟩, List.mem_of_getElem? (i := 77) (by decide +kernel), List.mem_of_getElem? (i := 545) (by decide +kernel), List.mem_of_getElem? (i := 546) (by decide +kernel)⟩
theorem lw_p13 : lw_okq (⟨"ShiftMender", "segment", "(III)V"⟩, 7) := ⟨⟨by decide +kernel, by decide +kernel⟩, List.mem_of_getElem? (i := 16) (by decide +kernel), List.mem_of_getElem? (i := 579) (by decide +kernel), List.mem_of_getElem? (i := 580) (by decide +kernel)⟩
theorem lw_p14 : lw_okq (⟨"ShiftMender$Segmentation", "fitFrom", "(IIJ)V"⟩, 6) := ⟨⟨by decide +kernel, by decide +kernel⟩, List.mem_of_getElem? (i := 100) (by decide +kernel), List.mem_of_getElem? (i := 589) (by decide +kernel), List.mem_of_getElem? (i := 590) (by decide +kernel)⟩
theorem lw_p15 : lw_okq (⟨"ShiftMender$Segmentation", "keepStarts", "()V"⟩, 6) := ⟨⟨by decide +kernel, by decide +kernel⟩, List.mem_of_getElem? (i := 100) (by decide +kernel), List.mem_of_getElem? (i := 594) (by decide +kernel), List.mem_of_getElem? (i := 595) (by decide +kernel)⟩
def lw_privs_1 : List (MethodName × Nat) := [(⟨"ShiftMender", "layScript", "()I"⟩, 7), (⟨"ShiftMender$Script", "readItem", "(I)I"⟩, 3), (⟨"ShiftMender$Script", "readYears", "(I)I"⟩, 3), (⟨"ShiftMender$Script", "signAt", "(I)I"⟩, 3), (⟨"ShiftMender$Script", "endsAt", "(I)Z"⟩, 3), (⟨"ShiftMender$Script", "readStation", "(I)I"⟩, 3), (⟨"ShiftMender$Script", "readPenalty", "(I)I"⟩, 3), (⟨"ShiftMender$Script", "readRules", "(I)I"⟩, 3), (⟨"ShiftMender", "changeValue", "(III)Z"⟩, 7), (⟨"ShiftMender$History", "slot", "(I)I"⟩, 3), (⟨"ShiftMender$Records", "squaredDistance", "(II)I"⟩, 8), (⟨"ShiftMender", "areTwoStations", "(II)Z"⟩, 7), (⟨"ShiftMender$Series", "add", "(II)V"⟩, 5), (⟨"ShiftMender", "segment", "(III)V"⟩, 7), (⟨"ShiftMender$Segmentation", "fitFrom", "(IIJ)V"⟩, 6), (⟨"ShiftMender$Segmentation", "keepStarts", "()V"⟩, 6)]
theorem lw_r1 : ∀ q ∈ lw_privs_1, lw_okq q := List.forall_mem_cons.mpr ⟨lw_p0, List.forall_mem_cons.mpr ⟨lw_p1, List.forall_mem_cons.mpr ⟨lw_p2, List.forall_mem_cons.mpr ⟨lw_p3, List.forall_mem_cons.mpr ⟨lw_p4, List.forall_mem_cons.mpr ⟨lw_p5, List.forall_mem_cons.mpr ⟨lw_p6, List.forall_mem_cons.mpr ⟨lw_p7, List.forall_mem_cons.mpr ⟨lw_p8, List.forall_mem_cons.mpr ⟨lw_p9, List.forall_mem_cons.mpr ⟨lw_p10, List.forall_mem_cons.mpr ⟨lw_p11, List.forall_mem_cons.mpr ⟨lw_p12, List.forall_mem_cons.mpr ⟨lw_p13, List.forall_mem_cons.mpr ⟨lw_p14, List.forall_mem_cons.mpr ⟨lw_p15, fun _ h => absurd h List.not_mem_nil⟩⟩⟩⟩⟩⟩⟩⟩⟩⟩⟩⟩⟩⟩⟩⟩
theorem lw_p16 : lw_okq (⟨"ShiftMender$Segmentation", "addRun", "(II)V"⟩, 6) := ⟨⟨by decide +kernel, by decide +kernel⟩, List.mem_of_getElem? (i := 100) (by decide +kernel), List.mem_of_getElem? (i := 624) (by decide +kernel), List.mem_of_getElem? (i := 625) (by decide +kernel)⟩
theorem lw_p17 : lw_okq (⟨"ShiftMender$Culprits", "clear", "()V"⟩, 13) := ⟨⟨by decide +kernel, by decide +kernel⟩, List.mem_of_getElem? (i := 125) (by decide +kernel), List.mem_of_getElem? (i := 652) (by decide +kernel), List.mem_of_getElem? (i := 653) (by decide +kernel)⟩
theorem lw_p18 : lw_okq (⟨"ShiftMender$Culprits", "addPair", "(II)V"⟩, 13) := ⟨⟨by decide +kernel, by decide +kernel⟩, List.mem_of_getElem? (i := 125) (by decide +kernel), List.mem_of_getElem? (i := 658) (by decide +kernel), List.mem_of_getElem? (i := 659) (by decide +kernel)⟩
theorem lw_p19 : lw_okq (⟨"ShiftMender$Culprits", "findCulprit", "()Z"⟩, 13) := ⟨⟨by decide +kernel, by decide +kernel⟩, List.mem_of_getElem? (i := 125) (by decide +kernel), List.mem_of_getElem? (i := 676) (by decide +kernel), List.mem_of_getElem? (i := 677) (by decide +kernel)⟩
theorem lw_p20 : lw_okq (⟨"ShiftMender$Culprits", "size", "(II)I"⟩, 13) := ⟨⟨by decide +kernel, by decide +kernel⟩, List.mem_of_getElem? (i := 125) (by decide +kernel), List.mem_of_getElem? (i := 681) (by decide +kernel), List.mem_of_getElem? (i := 682) (by decide +kernel)⟩
theorem lw_p21 : lw_okq (⟨"ShiftMender$Culprits", "isOf", "(II)Z"⟩, 13) := ⟨⟨by decide +kernel, by decide +kernel⟩, List.mem_of_getElem? (i := 125) (by decide +kernel), List.mem_of_getElem? (i := 685) (by decide +kernel), List.mem_of_getElem? (i := 686) (by decide +kernel)⟩
theorem lw_p22 : lw_okq (⟨"ShiftMender$Culprits", "strikeVotes", "(II)V"⟩, 13) := ⟨⟨by decide +kernel, by decide +kernel⟩, List.mem_of_getElem? (i := 125) (by decide +kernel), List.mem_of_getElem? (i := 697) (by decide +kernel), List.mem_of_getElem? (i := 698) (by decide +kernel)⟩
theorem lw_p23 : lw_okq (⟨"ShiftMender", "mendCulprit", "(I)I"⟩, 7) := ⟨⟨by decide +kernel, by decide +kernel⟩, List.mem_of_getElem? (i := 16) (by decide +kernel), List.mem_of_getElem? (i := 727) (by decide +kernel), List.mem_of_getElem? (i := 728) (by decide +kernel)⟩
theorem lw_p24 : lw_okq (⟨"ShiftMender", "estimate", "(II)I"⟩, 7) := ⟨⟨by decide +kernel, by decide +kernel⟩, List.mem_of_getElem? (i := 16) (by decide +kernel), List.mem_of_getElem? (i := 765) (by decide +kernel), List.mem_of_getElem? (i := 766) (by decide +kernel)⟩
theorem lw_p25 : lw_okq (⟨"ShiftMenderModel", "empty", "()V"⟩, 31) := ⟨⟨by decide +kernel, by decide +kernel⟩, List.mem_of_getElem? (i := 796) (by decide +kernel), List.mem_of_getElem? (i := 802) (by decide +kernel), List.mem_of_getElem? (i := 803) (by decide +kernel)⟩
theorem lw_p26 : lw_okq (⟨"ShiftMenderModel", "rulesAre", "(IIII)V"⟩, 31) := ⟨⟨by decide +kernel, by decide +kernel⟩, List.mem_of_getElem? (i := 796) (by decide +kernel), List.mem_of_getElem? (i := 807) (by decide +kernel), List.mem_of_getElem? (i := 808) (by decide +kernel)⟩
theorem lw_p27 : lw_okq (⟨"ShiftMenderModel", "stationIs", "(II)V"⟩, 31) := ⟨⟨by decide +kernel, by decide +kernel⟩, List.mem_of_getElem? (i := 796) (by decide +kernel), List.mem_of_getElem? (i := 811) (by decide +kernel), List.mem_of_getElem? (i := 812) (by decide +kernel)⟩
theorem lw_p28 : lw_okq (⟨"ShiftMenderModel", "valuesAre", "(IIIIII)V"⟩, 31) := ⟨⟨by decide +kernel, by decide +kernel⟩, List.mem_of_getElem? (i := 796) (by decide +kernel), List.mem_of_getElem? (i := 815) (by decide +kernel), List.mem_of_getElem? (i := 816) (by decide +kernel)⟩
theorem lw_p29 : lw_okq (⟨"ShiftMenderModel", "begin", "()V"⟩, 31) := ⟨⟨by decide +kernel, by decide +kernel⟩, List.mem_of_getElem? (i := 796) (by decide +kernel), List.mem_of_getElem? (i := 819) (by decide +kernel), List.mem_of_getElem? (i := 820) (by decide +kernel)⟩
theorem lw_p30 : lw_okq (⟨"ShiftMenderModel", "readAll", "()I"⟩, 31) := ⟨⟨by decide +kernel, by decide +kernel⟩, List.mem_of_getElem? (i := 796) (by decide +kernel), List.mem_of_getElem? (i := 934) (by decide +kernel), List.mem_of_getElem? (i := 935) (by decide +kernel)⟩
theorem lw_p31 : lw_okq (⟨"ShiftMenderModel", "letterAt", "(I)I"⟩, 31) := ⟨⟨by decide +kernel, by decide +kernel⟩, List.mem_of_getElem? (i := 796) (by decide +kernel), List.mem_of_getElem? (i := 938) (by decide +kernel), List.mem_of_getElem? (i := 939) (by decide +kernel)⟩
def lw_privs_2 : List (MethodName × Nat) := [(⟨"ShiftMender$Segmentation", "addRun", "(II)V"⟩, 6), (⟨"ShiftMender$Culprits", "clear", "()V"⟩, 13), (⟨"ShiftMender$Culprits", "addPair", "(II)V"⟩, 13), (⟨"ShiftMender$Culprits", "findCulprit", "()Z"⟩, 13), (⟨"ShiftMender$Culprits", "size", "(II)I"⟩, 13), (⟨"ShiftMender$Culprits", "isOf", "(II)Z"⟩, 13), (⟨"ShiftMender$Culprits", "strikeVotes", "(II)V"⟩, 13), (⟨"ShiftMender", "mendCulprit", "(I)I"⟩, 7), (⟨"ShiftMender", "estimate", "(II)I"⟩, 7), (⟨"ShiftMenderModel", "empty", "()V"⟩, 31), (⟨"ShiftMenderModel", "rulesAre", "(IIII)V"⟩, 31), (⟨"ShiftMenderModel", "stationIs", "(II)V"⟩, 31), (⟨"ShiftMenderModel", "valuesAre", "(IIIIII)V"⟩, 31), (⟨"ShiftMenderModel", "begin", "()V"⟩, 31), (⟨"ShiftMenderModel", "readAll", "()I"⟩, 31), (⟨"ShiftMenderModel", "letterAt", "(I)I"⟩, 31)]
theorem lw_r2 : ∀ q ∈ lw_privs_2, lw_okq q := List.forall_mem_cons.mpr ⟨lw_p16, List.forall_mem_cons.mpr ⟨lw_p17, List.forall_mem_cons.mpr ⟨lw_p18, List.forall_mem_cons.mpr ⟨lw_p19, List.forall_mem_cons.mpr ⟨lw_p20, List.forall_mem_cons.mpr ⟨lw_p21, List.forall_mem_cons.mpr ⟨lw_p22, List.forall_mem_cons.mpr ⟨lw_p23, List.forall_mem_cons.mpr ⟨lw_p24, List.forall_mem_cons.mpr ⟨lw_p25, List.forall_mem_cons.mpr ⟨lw_p26, List.forall_mem_cons.mpr ⟨lw_p27, List.forall_mem_cons.mpr ⟨lw_p28, List.forall_mem_cons.mpr ⟨lw_p29, List.forall_mem_cons.mpr ⟨lw_p30, List.forall_mem_cons.mpr ⟨lw_p31, fun _ h => absurd h List.not_mem_nil⟩⟩⟩⟩⟩⟩⟩⟩⟩⟩⟩⟩⟩⟩⟩⟩
theorem lw_p32 : lw_okq (⟨"ShiftMenderModel", "yearsItem", "()Z"⟩, 31) := ⟨⟨by decide +kernel, by decide +kernel⟩, List.mem_of_getElem? (i := 796) (by decide +kernel), List.mem_of_getElem? (i := 942) (by decide +kernel), List.mem_of_getElem? (i := 943) (by decide +kernel)⟩
theorem lw_p33 : lw_okq (⟨"ShiftMenderModel", "sign", "(II)I"⟩, 31) := ⟨⟨by decide +kernel, by decide +kernel⟩, List.mem_of_getElem? (i := 796) (by decide +kernel), List.mem_of_getElem? (i := 946) (by decide +kernel), List.mem_of_getElem? (i := 947) (by decide +kernel)⟩
theorem lw_p34 : lw_okq (⟨"ShiftMenderModel", "ends", "()Z"⟩, 31) := ⟨⟨by decide +kernel, by decide +kernel⟩, List.mem_of_getElem? (i := 796) (by decide +kernel), List.mem_of_getElem? (i := 954) (by decide +kernel), List.mem_of_getElem? (i := 955) (by decide +kernel)⟩
theorem lw_p35 : lw_okq (⟨"ShiftMenderModel", "item", "(I)Z"⟩, 31) := ⟨⟨by decide +kernel, by decide +kernel⟩, List.mem_of_getElem? (i := 796) (by decide +kernel), List.mem_of_getElem? (i := 958) (by decide +kernel), List.mem_of_getElem? (i := 959) (by decide +kernel)⟩
theorem lw_p36 : lw_okq (⟨"ShiftMenderModel", "stationItem", "()Z"⟩, 31) := ⟨⟨by decide +kernel, by decide +kernel⟩, List.mem_of_getElem? (i := 796) (by decide +kernel), List.mem_of_getElem? (i := 962) (by decide +kernel), List.mem_of_getElem? (i := 963) (by decide +kernel)⟩
theorem lw_p37 : lw_okq (⟨"ShiftMenderModel", "penaltyItem", "()Z"⟩, 31) := ⟨⟨by decide +kernel, by decide +kernel⟩, List.mem_of_getElem? (i := 796) (by decide +kernel), List.mem_of_getElem? (i := 966) (by decide +kernel), List.mem_of_getElem? (i := 967) (by decide +kernel)⟩
theorem lw_p38 : lw_okq (⟨"ShiftMenderModel", "rulesItem", "()Z"⟩, 31) := ⟨⟨by decide +kernel, by decide +kernel⟩, List.mem_of_getElem? (i := 796) (by decide +kernel), List.mem_of_getElem? (i := 970) (by decide +kernel), List.mem_of_getElem? (i := 971) (by decide +kernel)⟩
theorem lw_p39 : lw_okq (⟨"ShiftMenderModel", "isStation", "(I)Z"⟩, 31) := ⟨⟨by decide +kernel, by decide +kernel⟩, List.mem_of_getElem? (i := 796) (by decide +kernel), List.mem_of_getElem? (i := 982) (by decide +kernel), List.mem_of_getElem? (i := 983) (by decide +kernel)⟩
theorem lw_p40 : lw_okq (⟨"ShiftMenderModel", "isYear", "(I)Z"⟩, 31) := ⟨⟨by decide +kernel, by decide +kernel⟩, List.mem_of_getElem? (i := 796) (by decide +kernel), List.mem_of_getElem? (i := 986) (by decide +kernel), List.mem_of_getElem? (i := 987) (by decide +kernel)⟩
theorem lw_p41 : lw_okq (⟨"ShiftMenderModel", "valueOf", "(II)I"⟩, 31) := ⟨⟨by decide +kernel, by decide +kernel⟩, List.mem_of_getElem? (i := 796) (by decide +kernel), List.mem_of_getElem? (i := 990) (by decide +kernel), List.mem_of_getElem? (i := 991) (by decide +kernel)⟩
theorem lw_p42 : lw_okq (⟨"ShiftMenderModel", "change", "(II)I"⟩, 31) := ⟨⟨by decide +kernel, by decide +kernel⟩, List.mem_of_getElem? (i := 796) (by decide +kernel), List.mem_of_getElem? (i := 1004) (by decide +kernel), List.mem_of_getElem? (i := 1005) (by decide +kernel)⟩
theorem lw_p43 : lw_okq (⟨"ShiftMenderModel", "note", "()V"⟩, 31) := ⟨⟨by decide +kernel, by decide +kernel⟩, List.mem_of_getElem? (i := 796) (by decide +kernel), List.mem_of_getElem? (i := 1008) (by decide +kernel), List.mem_of_getElem? (i := 1009) (by decide +kernel)⟩
theorem lw_p44 : lw_okq (⟨"ShiftMenderModel", "isThere", "(II)Z"⟩, 31) := ⟨⟨by decide +kernel, by decide +kernel⟩, List.mem_of_getElem? (i := 796) (by decide +kernel), List.mem_of_getElem? (i := 1016) (by decide +kernel), List.mem_of_getElem? (i := 1017) (by decide +kernel)⟩
theorem lw_p45 : lw_okq (⟨"ShiftMenderModel", "rankOf", "(II)I"⟩, 31) := ⟨⟨by decide +kernel, by decide +kernel⟩, List.mem_of_getElem? (i := 796) (by decide +kernel), List.mem_of_getElem? (i := 1048) (by decide +kernel), List.mem_of_getElem? (i := 1049) (by decide +kernel)⟩
theorem lw_p46 : lw_okq (⟨"ShiftMenderModel", "square", "(II)I"⟩, 31) := ⟨⟨by decide +kernel, by decide +kernel⟩, List.mem_of_getElem? (i := 796) (by decide +kernel), List.mem_of_getElem? (i := 1052) (by decide +kernel), List.mem_of_getElem? (i := 1053) (by decide +kernel)⟩
theorem lw_p47 : lw_okq (⟨"ShiftMenderModel", "areTwo", "(II)Z"⟩, 31) := ⟨⟨by decide +kernel, by decide +kernel⟩, List.mem_of_getElem? (i := 796) (by decide +kernel), List.mem_of_getElem? (i := 1060) (by decide +kernel), List.mem_of_getElem? (i := 1061) (by decide +kernel)⟩
def lw_privs_3 : List (MethodName × Nat) := [(⟨"ShiftMenderModel", "yearsItem", "()Z"⟩, 31), (⟨"ShiftMenderModel", "sign", "(II)I"⟩, 31), (⟨"ShiftMenderModel", "ends", "()Z"⟩, 31), (⟨"ShiftMenderModel", "item", "(I)Z"⟩, 31), (⟨"ShiftMenderModel", "stationItem", "()Z"⟩, 31), (⟨"ShiftMenderModel", "penaltyItem", "()Z"⟩, 31), (⟨"ShiftMenderModel", "rulesItem", "()Z"⟩, 31), (⟨"ShiftMenderModel", "isStation", "(I)Z"⟩, 31), (⟨"ShiftMenderModel", "isYear", "(I)Z"⟩, 31), (⟨"ShiftMenderModel", "valueOf", "(II)I"⟩, 31), (⟨"ShiftMenderModel", "change", "(II)I"⟩, 31), (⟨"ShiftMenderModel", "note", "()V"⟩, 31), (⟨"ShiftMenderModel", "isThere", "(II)Z"⟩, 31), (⟨"ShiftMenderModel", "rankOf", "(II)I"⟩, 31), (⟨"ShiftMenderModel", "square", "(II)I"⟩, 31), (⟨"ShiftMenderModel", "areTwo", "(II)Z"⟩, 31)]
theorem lw_r3 : ∀ q ∈ lw_privs_3, lw_okq q := List.forall_mem_cons.mpr ⟨lw_p32, List.forall_mem_cons.mpr ⟨lw_p33, List.forall_mem_cons.mpr ⟨lw_p34, List.forall_mem_cons.mpr ⟨lw_p35, List.forall_mem_cons.mpr ⟨lw_p36, List.forall_mem_cons.mpr ⟨lw_p37, List.forall_mem_cons.mpr ⟨lw_p38, List.forall_mem_cons.mpr ⟨lw_p39, List.forall_mem_cons.mpr ⟨lw_p40, List.forall_mem_cons.mpr ⟨lw_p41, List.forall_mem_cons.mpr ⟨lw_p42, List.forall_mem_cons.mpr ⟨lw_p43, List.forall_mem_cons.mpr ⟨lw_p44, List.forall_mem_cons.mpr ⟨lw_p45, List.forall_mem_cons.mpr ⟨lw_p46, List.forall_mem_cons.mpr ⟨lw_p47, fun _ h => absurd h List.not_mem_nil⟩⟩⟩⟩⟩⟩⟩⟩⟩⟩⟩⟩⟩⟩⟩⟩
theorem lw_p48 : lw_okq (⟨"ShiftMenderModel", "isPair", "(II)Z"⟩, 31) := ⟨⟨by decide +kernel, by decide +kernel⟩, List.mem_of_getElem? (i := 796) (by decide +kernel), List.mem_of_getElem? (i := 1064) (by decide +kernel), List.mem_of_getElem? (i := 1065) (by decide +kernel)⟩
theorem lw_p49 : lw_okq (⟨"ShiftMenderModel", "rowOf", "(II)V"⟩, 31) := ⟨⟨by decide +kernel, by decide +kernel⟩, List.mem_of_getElem? (i := 796) (by decide +kernel), List.mem_of_getElem? (i := 1072) (by decide +kernel), List.mem_of_getElem? (i := 1073) (by decide +kernel)⟩
theorem lw_p50 : lw_okq (⟨"ShiftMenderModel", "spreadOf", "(II)J"⟩, 31) := ⟨⟨by decide +kernel, by decide +kernel⟩, List.mem_of_getElem? (i := 796) (by decide +kernel), List.mem_of_getElem? (i := 1085) (by decide +kernel), List.mem_of_getElem? (i := 1086) (by decide +kernel)⟩
theorem lw_p51 : lw_okq (⟨"ShiftMenderModel", "sumOf", "(II)J"⟩, 31) := ⟨⟨by decide +kernel, by decide +kernel⟩, List.mem_of_getElem? (i := 796) (by decide +kernel), List.mem_of_getElem? (i := 1089) (by decide +kernel), List.mem_of_getElem? (i := 1090) (by decide +kernel)⟩
theorem lw_p52 : lw_okq (⟨"ShiftMenderModel", "findBest", "(II)V"⟩, 31) := ⟨⟨by decide +kernel, by decide +kernel⟩, List.mem_of_getElem? (i := 796) (by decide +kernel), List.mem_of_getElem? (i := 1099) (by decide +kernel), List.mem_of_getElem? (i := 1100) (by decide +kernel)⟩
theorem lw_p53 : lw_okq (⟨"ShiftMenderModel", "learn", "(II)V"⟩, 31) := ⟨⟨by decide +kernel, by decide +kernel⟩, List.mem_of_getElem? (i := 796) (by decide +kernel), List.mem_of_getElem? (i := 1103) (by decide +kernel), List.mem_of_getElem? (i := 1104) (by decide +kernel)⟩
theorem lw_p54 : lw_okq (⟨"ShiftMenderModel", "breaksBy", "(I)I"⟩, 31) := ⟨⟨by decide +kernel, by decide +kernel⟩, List.mem_of_getElem? (i := 796) (by decide +kernel), List.mem_of_getElem? (i := 1108) (by decide +kernel), List.mem_of_getElem? (i := 1109) (by decide +kernel)⟩
theorem lw_p55 : lw_okq (⟨"ShiftMenderModel", "know", "()V"⟩, 31) := ⟨⟨by decide +kernel, by decide +kernel⟩, List.mem_of_getElem? (i := 796) (by decide +kernel), List.mem_of_getElem? (i := 1133) (by decide +kernel), List.mem_of_getElem? (i := 1134) (by decide +kernel)⟩
theorem lw_p56 : lw_okq (⟨"ShiftMenderModel", "findBreaks", "()V"⟩, 31) := ⟨⟨by decide +kernel, by decide +kernel⟩, List.mem_of_getElem? (i := 796) (by decide +kernel), List.mem_of_getElem? (i := 1137) (by decide +kernel), List.mem_of_getElem? (i := 1138) (by decide +kernel)⟩
theorem lw_p57 : lw_okq (⟨"ShiftMenderModel", "withWhom", "([III)I"⟩, 31) := ⟨⟨by decide +kernel, by decide +kernel⟩, List.mem_of_getElem? (i := 796) (by decide +kernel), List.mem_of_getElem? (i := 1141) (by decide +kernel), List.mem_of_getElem? (i := 1142) (by decide +kernel)⟩
theorem lw_p58 : lw_okq (⟨"ShiftMenderModel", "finds", "(II)V"⟩, 31) := ⟨⟨by decide +kernel, by decide +kernel⟩, List.mem_of_getElem? (i := 796) (by decide +kernel), List.mem_of_getElem? (i := 1151) (by decide +kernel), List.mem_of_getElem? (i := 1152) (by decide +kernel)⟩
theorem lw_p59 : lw_okq (⟨"ShiftMenderModel", "sizeOf", "(I)I"⟩, 31) := ⟨⟨by decide +kernel, by decide +kernel⟩, List.mem_of_getElem? (i := 796) (by decide +kernel), List.mem_of_getElem? (i := 1160) (by decide +kernel), List.mem_of_getElem? (i := 1161) (by decide +kernel)⟩
theorem lw_p60 : lw_okq (⟨"ShiftMenderModel", "rises", "(III)J"⟩, 31) := ⟨⟨by decide +kernel, by decide +kernel⟩, List.mem_of_getElem? (i := 796) (by decide +kernel), List.mem_of_getElem? (i := 1164) (by decide +kernel), List.mem_of_getElem? (i := 1165) (by decide +kernel)⟩
theorem lw_p61 : lw_okq (⟨"ShiftMenderModel", "canMake", "(II)Z"⟩, 31) := ⟨⟨by decide +kernel, by decide +kernel⟩, List.mem_of_getElem? (i := 796) (by decide +kernel), List.mem_of_getElem? (i := 1188) (by decide +kernel), List.mem_of_getElem? (i := 1189) (by decide +kernel)⟩
theorem lw_p62 : lw_okq (⟨"ShiftMenderModel", "pairs", "()I"⟩, 31) := ⟨⟨by decide +kernel, by decide +kernel⟩, List.mem_of_getElem? (i := 796) (by decide +kernel), List.mem_of_getElem? (i := 1204) (by decide +kernel), List.mem_of_getElem? (i := 1205) (by decide +kernel)⟩
theorem lw_p63 : lw_okq (⟨"ShiftMenderModel", "missing", "()I"⟩, 31) := ⟨⟨by decide +kernel, by decide +kernel⟩, List.mem_of_getElem? (i := 796) (by decide +kernel), List.mem_of_getElem? (i := 1208) (by decide +kernel), List.mem_of_getElem? (i := 1209) (by decide +kernel)⟩
def lw_privs_4 : List (MethodName × Nat) := [(⟨"ShiftMenderModel", "isPair", "(II)Z"⟩, 31), (⟨"ShiftMenderModel", "rowOf", "(II)V"⟩, 31), (⟨"ShiftMenderModel", "spreadOf", "(II)J"⟩, 31), (⟨"ShiftMenderModel", "sumOf", "(II)J"⟩, 31), (⟨"ShiftMenderModel", "findBest", "(II)V"⟩, 31), (⟨"ShiftMenderModel", "learn", "(II)V"⟩, 31), (⟨"ShiftMenderModel", "breaksBy", "(I)I"⟩, 31), (⟨"ShiftMenderModel", "know", "()V"⟩, 31), (⟨"ShiftMenderModel", "findBreaks", "()V"⟩, 31), (⟨"ShiftMenderModel", "withWhom", "([III)I"⟩, 31), (⟨"ShiftMenderModel", "finds", "(II)V"⟩, 31), (⟨"ShiftMenderModel", "sizeOf", "(I)I"⟩, 31), (⟨"ShiftMenderModel", "rises", "(III)J"⟩, 31), (⟨"ShiftMenderModel", "canMake", "(II)Z"⟩, 31), (⟨"ShiftMenderModel", "pairs", "()I"⟩, 31), (⟨"ShiftMenderModel", "missing", "()I"⟩, 31)]
theorem lw_r4 : ∀ q ∈ lw_privs_4, lw_okq q := List.forall_mem_cons.mpr ⟨lw_p48, List.forall_mem_cons.mpr ⟨lw_p49, List.forall_mem_cons.mpr ⟨lw_p50, List.forall_mem_cons.mpr ⟨lw_p51, List.forall_mem_cons.mpr ⟨lw_p52, List.forall_mem_cons.mpr ⟨lw_p53, List.forall_mem_cons.mpr ⟨lw_p54, List.forall_mem_cons.mpr ⟨lw_p55, List.forall_mem_cons.mpr ⟨lw_p56, List.forall_mem_cons.mpr ⟨lw_p57, List.forall_mem_cons.mpr ⟨lw_p58, List.forall_mem_cons.mpr ⟨lw_p59, List.forall_mem_cons.mpr ⟨lw_p60, List.forall_mem_cons.mpr ⟨lw_p61, List.forall_mem_cons.mpr ⟨lw_p62, List.forall_mem_cons.mpr ⟨lw_p63, fun _ h => absurd h List.not_mem_nil⟩⟩⟩⟩⟩⟩⟩⟩⟩⟩⟩⟩⟩⟩⟩⟩
def lw_privs : List (MethodName × Nat) := lw_privs_1 ++ (lw_privs_2 ++ (lw_privs_3 ++ (lw_privs_4)))
def lw_tbl : List Cond := k2_sels lw_privs ++ tables_1
theorem lw_privs_ok : ∀ q ∈ lw_privs, lw_okq q := by
  show ∀ q ∈ lw_privs_1 ++ (lw_privs_2 ++ (lw_privs_3 ++ (lw_privs_4))), lw_okq q
  exact List.forall_mem_append.mpr ⟨lw_r1, List.forall_mem_append.mpr ⟨lw_r2, List.forall_mem_append.mpr ⟨lw_r3, lw_r4⟩⟩⟩
end
section
/-! ===== BEGIN words of one list among another's, by their places ===== -/
theorem goodIn_r {big : List Cond} (ws : List Cond) (ps : List Nat) (hp : ws = ps.filterMap (fun i => big[i]?)) (h : ws.all goodWord = true) : GoodIn big ws := by
  intro w hw
  have h1 := List.all_eq_true.mp h w hw
  rw [hp] at hw
  obtain ⟨i, -, hi⟩ := List.mem_filterMap.mp hw
  have hm : w ∈ big := by first | exact List.mem_of_getElem? hi | exact List.getElem?_mem hi
  exact ⟨hm, good_of_word h1⟩
theorem goodIn_app {big a b : List Cond} (ha : GoodIn big a) (hb : GoodIn big b) : GoodIn big (a ++ b) := fun w h => (List.mem_append.mp h).elim (ha w) (hb w)
theorem goodIn_ca {big a b : List Cond} {c : Cond} (ha : GoodIn big (c :: a)) (hb : GoodIn big b) : GoodIn big (c :: (a ++ b)) := fun w h => (List.mem_cons.mp h).elim (fun e => ha w (List.mem_cons.mpr (Or.inl e))) (fun h => (List.mem_append.mp h).elim (fun h => ha w (List.mem_cons.mpr (Or.inr h))) (hb w))
theorem goodIn_sub {big ws : List Cond} (hm : ∀ w ∈ ws, w ∈ big) (h : ws.all goodWord = true) : GoodIn big ws := fun w hw => ⟨hm w hw, good_of_word (List.all_eq_true.mp h w hw)⟩
/-! ===== END ===== -/

/-! ===== BEGIN new T[n][m]: the outer array a place, the inner ones among the pooled ===== -/
/-- f, but v at every address of l -/
def vr_up {α : Type} (f : Nat → α) (l : List Nat) (v : α) : Nat → α := fun a => if a ∈ l then v else f a
theorem vr_up_in {α : Type} {f : Nat → α} {l : List Nat} {v : α} {a : Nat} (h : a ∈ l) : vr_up f l v a = v := if_pos h
theorem vr_up_ne {α : Type} {f : Nat → α} {l : List Nat} {v : α} {a : Nat} (h : a ∉ l) : vr_up f l v a = f a := if_neg h
theorem vr_rows {L l : List Nat} {f : Nat → va_E} {e : va_E} (h : ∀ a, a ∈ l → a ∉ L) : va_pl L f ++ l.map (fun a => (a, e)) = va_pl (L ++ l) (vr_up f l e) := by
  unfold va_pl
  rw [List.map_append]
  congr 1
  · apply List.map_congr_left
    intro a ha
    rw [vr_up_ne (fun q => h a q ha)]
  · apply List.map_congr_left
    intro a ha
    rw [vr_up_in ha]
theorem vr_lay {X rows : va_W} {x : Nat × va_E} {pl : va_W} {D : va_G} {cl : List vw_C} {H : Heap} (hP : va_P D cl (((X ++ pl) ++ [x]) ++ rows) H) : va_P D cl ((X ++ [x]) ++ (pl ++ rows)) H := by
  rw [List.append_assoc (X ++ pl)] at hP
  have h := va_P.swap hP
  rw [← List.append_assoc X] at h
  have h2 := va_P.swap h
  rw [List.append_assoc (X ++ [x])] at h2
  exact h2
theorem vr_layD {X rows : va_W} {x : Nat × va_E} {pl : va_W} {A : Nat → Prop} (hD : va_D A (((X ++ pl) ++ [x]) ++ rows)) : va_D A ((X ++ [x]) ++ (pl ++ rows)) := by
  rw [List.append_assoc (X ++ pl)] at hD
  have h := va_D.swap hD
  rw [← List.append_assoc X] at h
  have h2 := va_D.swap h
  rw [List.append_assoc (X ++ [x])] at h2
  exact h2
theorem vr_outer (c : ClassId) (N h0 : Nat) : ∀ i : Nat, Jvm.Free.Multi.outerC c N h0 i = arrV c N (fun j => va_rf (if j < i then some (h0 + 1 + j) else none))
  | 0 => by
    show ({ cls := c, slots := Array.replicate N .null, vm := .none } : Cell) = _
    rw [arrV_new]
    refine congrArg (arrV c N) (funext fun j => ?_)
    simp [va_rf]
  | i + 1 => by
    show (Jvm.Free.Multi.outerC c N h0 i).setSlot i (.ref (h0 + 1 + i)) = _
    rw [vr_outer c N h0 i, arrV_store]
    refine congrArg (arrV c N) (funext fun j => ?_)
    by_cases e : j = i
    · subst e
      simp [updV, va_rf]
    · by_cases h : j < i
      · simp [updV, e, h, Nat.lt_succ_of_lt h]
      · simp [updV, e, h, show ¬ j < i + 1 by omega]
/-- (the printed names use va_AOA; no kit text defines it: defined here) the tables say that an array of these arrays is -/
def va_AOA (ty : FieldType) (U : State) : Prop := (Cond.arrayOver (.array ty)).before #[] U = true
theorem va_AOA.use {ty : FieldType} {A : Array Value} {U : State} (h : va_AOA ty U) : (Cond.arrayOver (.array ty)).before A U = true := h
theorem va_AOA.of {ty : FieldType} {A : Array Value} {U : State} (h : (Cond.arrayOver (.array ty)).before A U = true) : va_AOA ty U := h
section VGM
variable {p : Program} {l : Launch} {e : Env} {R : Room} {s : State} {m : MethodId} {args : Array Value} {below : List Frame} {meth : Method} {c : Code} {H : Heap} {locs : List Loc} {cells slots : Nat} {Q : State → Prop}
variable {cc : ByteArray} {pc : Nat} {ls : Array Slot} {rest : List Value} {D : va_G} {cl : List vw_C} {A : Nat → Prop} {a : Nat} {tys : List (ClassId × FieldType)} {ws : va_W} {H0 : Heap}
theorem va_mna {X : va_W} {L : List Nat} {f : Nat → va_E} {cc : ByteArray} (hexec : p.tables.exec = Jvm.exec) (hb : c.code = cc) {own : String} {index : Nat} {ty : FieldType} {cy : ClassId} (hown : s.vm.findClass own = some m.cls) (hclink : (Cond.classLink own index ("[" ++ (FieldType.array ty).toString)).before args s = true) (hover : va_AOA ty s) (harr : (Cond.arrayClass ty).before args s = true) (hcy : s.vm.findClass (FieldType.array ty).toString = some cy)
    (hK : va_K D cl tys s) (hP : va_P D cl (X ++ va_pl L f) H) (hD : va_D A (X ++ va_pl L f)) (hS : va_S A H0 H locs) (hA : ∀ q, H0.size ≤ q → A q) {n k : Int32} {N' K' : Nat} {z : vp_A} (hn : ¬ n < 0) (hk : ¬ k < 0) (hN : n.toNatClampNeg = N') (hM : k.toNatClampNeg = K')
    (hb1 : N' * 4 ≤ 536870912) (hb2 : K' * componentBytes ty ≤ 536870912) (hb3 : K' ≤ 536870912) (hdf : fits ty (defaultValue ty) = true) (hdd : (defaultValue ty).isDefault = true) (hcells : cells + (1 + N') ≤ R.cells) (hslots : slots + (N' + N' * K') ≤ R.slots) (hz : ∀ c : ClassId, Jvm.Free.Multi.innerC c K' (defaultValue ty) = vp_cell c z) (hdg : decode cc pc = .ok (.multianewarray index 2, 4))
    (kk : ∀ (q : Nat) (r : Nat → Nat) (cA : ClassId) (H1 : Heap), (∀ i j : Nat, i < N' → j < N' → r i = r j → i = j) → (∀ i : Nat, i < N' → r i ∉ L) → va_K D cl (tys ++ [(cA, .array ty)]) s →
      va_P D cl ((X ++ [(q, .inl (cA, N', .inr (.inr (.inr (.inr (fun i => if i < N' then some (r i) else none))))))]) ++ va_pl (L ++ (List.range N').map r) (vr_up f ((List.range N').map r) (.inl (cy, z)))) H1 → va_D A ((X ++ [(q, .inl (cA, N', .inr (.inr (.inr (.inr (fun i => if i < N' then some (r i) else none))))))]) ++ va_pl (L ++ (List.range N').map r) (vr_up f ((List.range N').map r) (.inl (cy, z)))) → va_S A H0 H1 locs →
      W p l e R s m args below meth c H1 locs (cells + 1 + N') (slots + N' + N' * K') Q (F0 m (pc + 4) ls (.ref q :: rest))) : W p l e R s m args below meth c H locs cells slots Q (F0 m pc ls (.int k :: .int n :: rest)) := by
  subst hN
  subst hM
  intro T hT Xs
  obtain ⟨vm₁, cA, comp, -, fA, fC, hO, -, X', step⟩ := Xs.multianewarray2F hexec hown hclink (va_AOA.use hover) harr (g := F0 m pc ls (.int k :: .int n :: rest)) rfl (by rw [hb]; exact hdg) rfl hn hk hb1 hb2 hb3 hdf hdd hcells hslots
  have ec : some cy = some comp := hcy.symm.trans fC
  cases ec
  generalize hF : Jvm.Free.Multi.fill (T.setVm vm₁) cA cy n.toNatClampNeg k.toNatClampNeg (defaultValue ty) n.toNatClampNeg = F at X' step
  have hTh : (T.setVm vm₁).heap = H := hT
  obtain ⟨f1, f2, -, -⟩ := Jvm.Free.Multi.fill_facts (T.setVm vm₁) cA cy n.toNatClampNeg k.toNatClampNeg (defaultValue ty) n.toNatClampNeg
  rw [hF, hTh] at f1 f2
  have hold : ∀ x : Nat, x < H.size → F.heap[x]? = H[x]? := fun x hx => by
    have := Jvm.Free.Multi.fill_old (T.setVm vm₁) cA cy n.toNatClampNeg k.toNatClampNeg (defaultValue ty) (a := x) (by rw [hTh]; exact hx) n.toNatClampNeg
    rw [hF, hTh] at this
    exact this
  have hrow : ∀ j : Nat, j < n.toNatClampNeg → F.heap[H.size + 1 + j]? = some (vp_cell cy z) := fun j hj => by
    have := Jvm.Free.Multi.fill_inner (T.setVm vm₁) cA cy n.toNatClampNeg k.toNatClampNeg (defaultValue ty) n.toNatClampNeg j hj
    rw [hF, hTh, hz] at this
    exact this
  have hout : Jvm.Free.Multi.outerC cA n.toNatClampNeg H.size n.toNatClampNeg = vp_cell cA (n.toNatClampNeg, .inr (.inr (.inr (.inr (fun i => if i < n.toNatClampNeg then some (H.size + 1 + i) else none))))) := by
    rw [vp_cell_q]
    exact vr_outer cA n.toNatClampNeg H.size n.toNatClampNeg
  rw [hout] at f2
  have hlt : ∀ a, a ∈ L → a < H.size := fun a ha => by
    obtain ⟨k9, hk9⟩ := va_pl_get (X := X) (f := f) ha
    exact (hP k9 _ hk9).lt
  have hnl : ∀ i : Nat, i < n.toNatClampNeg → H.size + 1 + i ∉ L := fun i _ h => by
    have := hlt _ h
    omega
  have hnm : ∀ a, a ∈ (List.range n.toNatClampNeg).map (fun i => H.size + 1 + i) → a ∉ L := fun a ha h => by
    obtain ⟨i, -, rfl⟩ := List.mem_map.mp ha
    have := hlt _ h
    omega
  have hP0 : va_P D cl (X ++ va_pl L f) F.heap := hP.kept (fun k9 x hx => hold x.1 ((hP k9 x hx).lt))
  have hP1 : va_P D cl ((X ++ va_pl L f) ++ [(H.size, .inl (cA, n.toNatClampNeg, .inr (.inr (.inr (.inr (fun i => if i < n.toNatClampNeg then some (H.size + 1 + i) else none))))))]) F.heap := hP0.app (fun k9 x hx => by
    have h0 : k9 < 1 := (List.getElem?_eq_some_iff.mp hx).1
    rw [show k9 = 0 by omega] at hx
    cases hx
    exact f2)
  have hP2 : va_P D cl (((X ++ va_pl L f) ++ [(H.size, .inl (cA, n.toNatClampNeg, .inr (.inr (.inr (.inr (fun i => if i < n.toNatClampNeg then some (H.size + 1 + i) else none))))))]) ++ ((List.range n.toNatClampNeg).map (fun i => H.size + 1 + i)).map (fun a => (a, .inl (cy, z)))) F.heap := hP1.app (fun k9 x hx => by
    obtain ⟨a, ha, rfl⟩ := List.mem_map.mp (List.mem_of_getElem? hx)
    obtain ⟨i, hi, rfl⟩ := List.mem_map.mp ha
    exact hrow i (List.mem_range.mp hi))
  have hD2 : va_D A (((X ++ va_pl L f) ++ [(H.size, .inl (cA, n.toNatClampNeg, .inr (.inr (.inr (.inr (fun i => if i < n.toNatClampNeg then some (H.size + 1 + i) else none))))))]) ++ ((List.range n.toNatClampNeg).map (fun i => H.size + 1 + i)).map (fun a => (a, .inl (cy, z)))) := by
    have hD1 := hD.push (e := .inl (cA, n.toNatClampNeg, .inr (.inr (.inr (.inr (fun i => if i < n.toNatClampNeg then some (H.size + 1 + i) else none)))))) hP rfl (hA _ hS.1)
    generalize hW1 : (X ++ va_pl L f) ++ [(H.size, .inl (cA, n.toNatClampNeg, .inr (.inr (.inr (.inr (fun i => if i < n.toNatClampNeg then some (H.size + 1 + i) else none))))))] = W1 at hD1 hP1 ⊢
    have hle : ∀ (k9 : Nat) (x : Nat × va_E), W1[k9]? = some x → x.1 ≤ H.size := fun k9 x hx => by
      rw [← hW1] at hx
      by_cases hl : k9 < (X ++ va_pl L f).length
      · rw [List.getElem?_append_left hl] at hx
        exact Nat.le_of_lt ((hP k9 x hx).lt)
      · rw [List.getElem?_append_right (by omega)] at hx
        have h0 : k9 - (X ++ va_pl L f).length < 1 := (List.getElem?_eq_some_iff.mp hx).1
        rw [show k9 - (X ++ va_pl L f).length = 0 by omega] at hx
        cases hx
        exact Nat.le_refl _
    have hr : ∀ (k9 : Nat) (x : Nat × va_E), (((List.range n.toNatClampNeg).map (fun i => H.size + 1 + i)).map (fun a => ((a, .inl (cy, z)) : Nat × va_E)))[k9]? = some x → x.1 = H.size + 1 + k9 := fun k9 x hx => by
      rw [List.getElem?_map, List.getElem?_map] at hx
      by_cases h9 : k9 < n.toNatClampNeg
      · rw [List.getElem?_range h9] at hx
        cases hx
        rfl
      · have hn0 : (List.range n.toNatClampNeg)[k9]? = none := List.getElem?_eq_none (by rw [List.length_range]; omega)
        rw [hn0] at hx
        cases hx
    refine ⟨fun i j x y hi hj hxy => ?_, fun k9 x hx => ?_⟩
    · by_cases h1 : i < W1.length <;> by_cases h2 : j < W1.length
      · rw [List.getElem?_append_left h1] at hi
        rw [List.getElem?_append_left h2] at hj
        exact hD1.1 i j x y hi hj hxy
      · rw [List.getElem?_append_left h1] at hi
        rw [List.getElem?_append_right (by omega)] at hj
        have := hle _ _ hi
        have := hr _ _ hj
        omega
      · rw [List.getElem?_append_right (by omega)] at hi
        rw [List.getElem?_append_left h2] at hj
        have := hle _ _ hj
        have := hr _ _ hi
        omega
      · rw [List.getElem?_append_right (by omega)] at hi hj
        have := hr _ _ hi
        have := hr _ _ hj
        omega
    · by_cases h1 : k9 < W1.length
      · rw [List.getElem?_append_left h1] at hx
        exact hD1.2 k9 x hx
      · rw [List.getElem?_append_right (by omega)] at hx
        have := hr _ _ hx
        exact hA _ (by have := hS.1; omega)
  have hAr : ArrOfT s cA (.array ty) := fun N9 z9 => by
    obtain ⟨-, k9, hk9, cm9, hkk9⟩ := (hO 0 0 0).1
    exact ⟨(fun q hq => by cases hq), k9, hk9, cm9, hkk9⟩
  have hK2 : va_K D cl (tys ++ [(cA, .array ty)]) s := ⟨hK.1, fun k9 x hx => by
    by_cases hl : k9 < tys.length
    · rw [List.getElem?_append_left hl] at hx
      exact hK.2 k9 x hx
    · rw [List.getElem?_append_right (by omega)] at hx
      have h0 : k9 - tys.length < 1 := (List.getElem?_eq_some_iff.mp hx).1
      rw [show k9 - tys.length = 0 by omega] at hx
      cases hx
      exact ⟨hAr, fA⟩⟩
  obtain ⟨t, a1, b1⟩ := kk H.size (fun i => H.size + 1 + i) cA F.heap (fun i j _ _ h => by have h9 : H.size + 1 + i = H.size + 1 + j := h; omega) hnl hK2 (by rw [← vr_rows hnm]; exact vr_lay hP2) (by rw [← vr_rows hnm]; exact vr_layD hD2) ⟨by rw [f1]; have := hS.1; omega, fun x h1 h2 => (hold x (Nat.lt_of_lt_of_le h1 hS.1)).trans (hS.2.1 x h1 h2), hS.2.2⟩ F rfl X'
  refine ⟨t, step t ?_, b1⟩
  have e : T.heap.size = H.size := by rw [hT]
  rw [e]
  exact a1
end VGM
/-! ===== END ===== -/

def RX0 : String := "ShiftMender$Culprits"
def TX0 : u_T := fun k => match k with
  | 0 => ("ShiftMender$Culprits", "records", "LShiftMender$Records;", true)
  | 1 => ("ShiftMender$Culprits", "series", "LShiftMender$Series;", true)
  | 2 => ("ShiftMender$Culprits", "segmentation", "LShiftMender$Segmentation;", true)
  | 3 => ("ShiftMender$Culprits", "version", "I", false)
  | 4 => ("ShiftMender$Culprits", "pairs", "I", false)
  | 5 => ("ShiftMender$Culprits", "firsts", "[I", true)
  | 6 => ("ShiftMender$Culprits", "seconds", "[I", true)
  | 7 => ("ShiftMender$Culprits", "open", "[[I", true)
  | 8 => ("ShiftMender$Culprits", "shifts", "[[J", true)
  | 9 => ("ShiftMender$Culprits", "cast", "[[I", true)
  | 10 => ("ShiftMender$Culprits", "left", "[[I", true)
  | 11 => ("ShiftMender$Culprits", "length", "I", false)
  | _ => ("ShiftMender$Culprits", "found", "[[I", true)
def tyX0 : Nat → FieldType := fun k => match k with
  | 0 => .object "ShiftMender$Records"
  | 1 => .object "ShiftMender$Series"
  | 2 => .object "ShiftMender$Segmentation"
  | 3 => .int
  | 4 => .int
  | 5 => .array .int
  | 6 => .array .int
  | 7 => .array (.array .int)
  | 8 => .array (.array .long)
  | 9 => .array (.array .int)
  | 10 => .array (.array .int)
  | 11 => .int
  | _ => .array (.array .int)
abbrev wsX00 : List Cond := u_ws RX0 TX0 13
theorem nmX0 : ∀ a, a < 13 → ∀ b, b < 13 → a ≠ b → (TX0 a).2.1 ≠ (TX0 b).2.1 := by decide +kernel
theorem tyX0_ok : ∀ k, k < 13 → parseFieldDescriptor (TX0 k).2.2.1 = some (tyX0 k) := by decide +kernel
abbrev cX0_init : ByteArray := prog_2_method_1_code
def yX0_init : MethodName := ⟨RX0, "<init>", "(LShiftMender$Records;LShiftMender$Series;LShiftMender$Segmentation;)V"⟩
abbrev cX0_refresh : ByteArray := prog_2_method_2_code
def yX0_refresh : MethodName := ⟨RX0, "refresh", "()V"⟩
abbrev cX0_votesCast : ByteArray := prog_2_method_3_code
def yX0_votesCast : MethodName := ⟨RX0, "votesCast", "(II)I"⟩
abbrev cX0_length : ByteArray := prog_2_method_4_code
def yX0_length : MethodName := ⟨RX0, "length", "()I"⟩
abbrev cX0_property : ByteArray := prog_2_method_5_code
def yX0_property : MethodName := ⟨RX0, "property", "(II)I"⟩
abbrev cX0_clear : ByteArray := prog_2_method_6_code
def yX0_clear : MethodName := ⟨RX0, "clear", "()V"⟩
abbrev cX0_addPair : ByteArray := prog_2_method_7_code
def yX0_addPair : MethodName := ⟨RX0, "addPair", "(II)V"⟩
abbrev cX0_findCulprit : ByteArray := prog_2_method_8_code
def yX0_findCulprit : MethodName := ⟨RX0, "findCulprit", "()Z"⟩
abbrev cX0_size : ByteArray := prog_2_method_9_code
def yX0_size : MethodName := ⟨RX0, "size", "(II)I"⟩
abbrev cX0_isOf : ByteArray := prog_2_method_10_code
def yX0_isOf : MethodName := ⟨RX0, "isOf", "(II)Z"⟩
abbrev cX0_strikeVotes : ByteArray := prog_2_method_11_code
def yX0_strikeVotes : MethodName := ⟨RX0, "strikeVotes", "(II)V"⟩
def RX1 : String := "ShiftMender$History"
def TX1 : u_T := fun k => match k with
  | 0 => ("ShiftMender$History", "parts", "[[I", true)
  | 1 => ("ShiftMender$History", "oldest", "I", false)
  | _ => ("ShiftMender$History", "length", "I", false)
def tyX1 : Nat → FieldType := fun k => match k with
  | 0 => .array (.array .int)
  | 1 => .int
  | _ => .int
abbrev wsX10 : List Cond := u_ws RX1 TX1 3
theorem nmX1 : ∀ a, a < 3 → ∀ b, b < 3 → a ≠ b → (TX1 a).2.1 ≠ (TX1 b).2.1 := by decide +kernel
theorem tyX1_ok : ∀ k, k < 3 → parseFieldDescriptor (TX1 k).2.2.1 = some (tyX1 k) := by decide +kernel
abbrev cX1_init : ByteArray := prog_3_method_1_code
def yX1_init : MethodName := ⟨RX1, "<init>", "()V"⟩
abbrev cX1_clear : ByteArray := prog_3_method_2_code
def yX1_clear : MethodName := ⟨RX1, "clear", "()V"⟩
abbrev cX1_length : ByteArray := prog_3_method_3_code
def yX1_length : MethodName := ⟨RX1, "length", "()I"⟩
abbrev cX1_add : ByteArray := prog_3_method_4_code
def yX1_add : MethodName := ⟨RX1, "add", "(IIII)V"⟩
abbrev cX1_slot : ByteArray := prog_3_method_5_code
def yX1_slot : MethodName := ⟨RX1, "slot", "(I)I"⟩
abbrev cX1_latest : ByteArray := prog_3_method_6_code
def yX1_latest : MethodName := ⟨RX1, "latest", "(I)I"⟩
abbrev cX1_dropLatest : ByteArray := prog_3_method_7_code
def yX1_dropLatest : MethodName := ⟨RX1, "dropLatest", "()V"⟩
def RX2 : String := "ShiftMender$Ledger"
def TX2 : u_T := fun k => match k with
  | 0 => ("ShiftMender$Ledger", "columns", "[[I", true)
  | _ => ("ShiftMender$Ledger", "length", "I", false)
def tyX2 : Nat → FieldType := fun k => match k with
  | 0 => .array (.array .int)
  | _ => .int
abbrev wsX20 : List Cond := u_ws RX2 TX2 2
theorem nmX2 : ∀ a, a < 2 → ∀ b, b < 2 → a ≠ b → (TX2 a).2.1 ≠ (TX2 b).2.1 := by decide +kernel
theorem tyX2_ok : ∀ k, k < 2 → parseFieldDescriptor (TX2 k).2.2.1 = some (tyX2 k) := by decide +kernel
abbrev cX2_init : ByteArray := prog_4_method_1_code
def yX2_init : MethodName := ⟨RX2, "<init>", "()V"⟩
abbrev cX2_clear : ByteArray := prog_4_method_2_code
def yX2_clear : MethodName := ⟨RX2, "clear", "()V"⟩
abbrev cX2_length : ByteArray := prog_4_method_3_code
def yX2_length : MethodName := ⟨RX2, "length", "()I"⟩
abbrev cX2_isFull : ByteArray := prog_4_method_4_code
def yX2_isFull : MethodName := ⟨RX2, "isFull", "()Z"⟩
abbrev cX2_add : ByteArray := prog_4_method_5_code
def yX2_add : MethodName := ⟨RX2, "add", "(III)V"⟩
abbrev cX2_dropLast : ByteArray := prog_4_method_6_code
def yX2_dropLast : MethodName := ⟨RX2, "dropLast", "()V"⟩
abbrev cX2_property : ByteArray := prog_4_method_7_code
def yX2_property : MethodName := ⟨RX2, "property", "(II)I"⟩
def RX3 : String := "ShiftMender$Records"
def TX3 : u_T := fun k => match k with
  | 0 => ("ShiftMender$Records", "years", "I", false)
  | 1 => ("ShiftMender$Records", "stations", "I", false)
  | 2 => ("ShiftMender$Records", "x", "[I", true)
  | 3 => ("ShiftMender$Records", "y", "[I", true)
  | 4 => ("ShiftMender$Records", "values", "[[I", true)
  | 5 => ("ShiftMender$Records", "breakPenalty", "I", false)
  | 6 => ("ShiftMender$Records", "rules", "[I", true)
  | _ => ("ShiftMender$Records", "version", "I", false)
def tyX3 : Nat → FieldType := fun k => match k with
  | 0 => .int
  | 1 => .int
  | 2 => .array .int
  | 3 => .array .int
  | 4 => .array (.array .int)
  | 5 => .int
  | 6 => .array .int
  | _ => .int
abbrev wsX30 : List Cond := u_ws RX3 TX3 8
theorem nmX3 : ∀ a, a < 8 → ∀ b, b < 8 → a ≠ b → (TX3 a).2.1 ≠ (TX3 b).2.1 := by decide +kernel
theorem tyX3_ok : ∀ k, k < 8 → parseFieldDescriptor (TX3 k).2.2.1 = some (tyX3 k) := by decide +kernel
abbrev cX3_init : ByteArray := prog_5_method_1_code
def yX3_init : MethodName := ⟨RX3, "<init>", "()V"⟩
abbrev cX3_startAfresh : ByteArray := prog_5_method_2_code
def yX3_startAfresh : MethodName := ⟨RX3, "startAfresh", "()V"⟩
abbrev cX3_copyFrom : ByteArray := prog_5_method_3_code
def yX3_copyFrom : MethodName := ⟨RX3, "copyFrom", "(LShiftMender$Records;)V"⟩
abbrev cX3_setYears : ByteArray := prog_5_method_4_code
def yX3_setYears : MethodName := ⟨RX3, "setYears", "(I)V"⟩
abbrev cX3_addStation : ByteArray := prog_5_method_5_code
def yX3_addStation : MethodName := ⟨RX3, "addStation", "(II)Z"⟩
abbrev cX3_version : ByteArray := prog_5_method_6_code
def yX3_version : MethodName := ⟨RX3, "version", "()I"⟩
abbrev cX3_years : ByteArray := prog_5_method_7_code
def yX3_years : MethodName := ⟨RX3, "years", "()I"⟩
abbrev cX3_stations : ByteArray := prog_5_method_8_code
def yX3_stations : MethodName := ⟨RX3, "stations", "()I"⟩
abbrev cX3_hasStation : ByteArray := prog_5_method_9_code
def yX3_hasStation : MethodName := ⟨RX3, "hasStation", "(I)Z"⟩
abbrev cX3_knows : ByteArray := prog_5_method_10_code
def yX3_knows : MethodName := ⟨RX3, "knows", "(II)Z"⟩
abbrev cX3_has : ByteArray := prog_5_method_11_code
def yX3_has : MethodName := ⟨RX3, "has", "(II)Z"⟩
abbrev cX3_at : ByteArray := prog_5_method_12_code
def yX3_at : MethodName := ⟨RX3, "at", "(II)I"⟩
abbrev cX3_put : ByteArray := prog_5_method_13_code
def yX3_put : MethodName := ⟨RX3, "put", "(III)V"⟩
abbrev cX3_breakPenalty : ByteArray := prog_5_method_14_code
def yX3_breakPenalty : MethodName := ⟨RX3, "breakPenalty", "()I"⟩
abbrev cX3_setBreakPenalty : ByteArray := prog_5_method_15_code
def yX3_setBreakPenalty : MethodName := ⟨RX3, "setBreakPenalty", "(I)V"⟩
abbrev cX3_ruleOf : ByteArray := prog_5_method_16_code
def yX3_ruleOf : MethodName := ⟨RX3, "ruleOf", "(I)I"⟩
abbrev cX3_setRule : ByteArray := prog_5_method_17_code
def yX3_setRule : MethodName := ⟨RX3, "setRule", "(II)V"⟩
abbrev cX3_canShiftEarlier : ByteArray := prog_5_method_18_code
def yX3_canShiftEarlier : MethodName := ⟨RX3, "canShiftEarlier", "(III)Z"⟩
abbrev cX3_shiftEarlier : ByteArray := prog_5_method_19_code
def yX3_shiftEarlier : MethodName := ⟨RX3, "shiftEarlier", "(III)V"⟩
abbrev cX3_rank : ByteArray := prog_5_method_20_code
def yX3_rank : MethodName := ⟨RX3, "rank", "(II)I"⟩
abbrev cX3_squaredDistance : ByteArray := prog_5_method_21_code
def yX3_squaredDistance : MethodName := ⟨RX3, "squaredDistance", "(II)I"⟩
abbrev cX3_arePair : ByteArray := prog_5_method_22_code
def yX3_arePair : MethodName := ⟨RX3, "arePair", "(II)Z"⟩
abbrev cX3_countPairs : ByteArray := prog_5_method_23_code
def yX3_countPairs : MethodName := ⟨RX3, "countPairs", "()I"⟩
abbrev cX3_countMissing : ByteArray := prog_5_method_24_code
def yX3_countMissing : MethodName := ⟨RX3, "countMissing", "()I"⟩
def RX4 : String := "ShiftMender$Script"
def TX4 : u_T := fun k => match k with
  | 0 => ("ShiftMender$Script", "letters", "[C", true)
  | 1 => ("ShiftMender$Script", "length", "I", false)
  | _ => ("ShiftMender$Script", "draft", "LShiftMender$Records;", true)
def tyX4 : Nat → FieldType := fun k => match k with
  | 0 => .array .char
  | 1 => .int
  | _ => .object "ShiftMender$Records"
abbrev wsX40 : List Cond := u_ws RX4 TX4 3
theorem nmX4 : ∀ a, a < 3 → ∀ b, b < 3 → a ≠ b → (TX4 a).2.1 ≠ (TX4 b).2.1 := by decide +kernel
theorem tyX4_ok : ∀ k, k < 3 → parseFieldDescriptor (TX4 k).2.2.1 = some (tyX4 k) := by decide +kernel
abbrev cX4_init : ByteArray := prog_6_method_1_code
def yX4_init : MethodName := ⟨RX4, "<init>", "()V"⟩
abbrev cX4_append : ByteArray := prog_6_method_2_code
def yX4_append : MethodName := ⟨RX4, "append", "(C)Z"⟩
abbrev cX4_clear : ByteArray := prog_6_method_3_code
def yX4_clear : MethodName := ⟨RX4, "clear", "()V"⟩
abbrev cX4_length : ByteArray := prog_6_method_4_code
def yX4_length : MethodName := ⟨RX4, "length", "()I"⟩
abbrev cX4_draft : ByteArray := prog_6_method_5_code
def yX4_draft : MethodName := ⟨RX4, "draft", "()LShiftMender$Records;"⟩
abbrev cX4_read : ByteArray := prog_6_method_6_code
def yX4_read : MethodName := ⟨RX4, "read", "()I"⟩
abbrev cX4_readItem : ByteArray := prog_6_method_7_code
def yX4_readItem : MethodName := ⟨RX4, "readItem", "(I)I"⟩
abbrev cX4_readYears : ByteArray := prog_6_method_8_code
def yX4_readYears : MethodName := ⟨RX4, "readYears", "(I)I"⟩
abbrev cX4_readStation : ByteArray := prog_6_method_9_code
def yX4_readStation : MethodName := ⟨RX4, "readStation", "(I)I"⟩
abbrev cX4_readPenalty : ByteArray := prog_6_method_10_code
def yX4_readPenalty : MethodName := ⟨RX4, "readPenalty", "(I)I"⟩
abbrev cX4_readRules : ByteArray := prog_6_method_11_code
def yX4_readRules : MethodName := ⟨RX4, "readRules", "(I)I"⟩
abbrev cX4_endsAt : ByteArray := prog_6_method_12_code
def yX4_endsAt : MethodName := ⟨RX4, "endsAt", "(I)Z"⟩
abbrev cX4_signAt : ByteArray := prog_6_method_13_code
def yX4_signAt : MethodName := ⟨RX4, "signAt", "(I)I"⟩
def RX5 : String := "ShiftMender$Segmentation"
def TX5 : u_T := fun k => match k with
  | 0 => ("ShiftMender$Segmentation", "series", "LShiftMender$Series;", true)
  | 1 => ("ShiftMender$Segmentation", "costs", "[J", true)
  | 2 => ("ShiftMender$Segmentation", "breakCounts", "[I", true)
  | 3 => ("ShiftMender$Segmentation", "nextStarts", "[I", true)
  | 4 => ("ShiftMender$Segmentation", "fixedCosts", "[J", true)
  | _ => ("ShiftMender$Segmentation", "starts", "[I", true)
def tyX5 : Nat → FieldType := fun k => match k with
  | 0 => .object "ShiftMender$Series"
  | 1 => .array .long
  | 2 => .array .int
  | 3 => .array .int
  | 4 => .array .long
  | _ => .array .int
abbrev wsX50 : List Cond := u_ws RX5 TX5 6
theorem nmX5 : ∀ a, a < 6 → ∀ b, b < 6 → a ≠ b → (TX5 a).2.1 ≠ (TX5 b).2.1 := by decide +kernel
theorem tyX5_ok : ∀ k, k < 6 → parseFieldDescriptor (TX5 k).2.2.1 = some (tyX5 k) := by decide +kernel
abbrev cX5_init : ByteArray := prog_7_method_1_code
def yX5_init : MethodName := ⟨RX5, "<init>", "(LShiftMender$Series;)V"⟩
abbrev cX5_fit : ByteArray := prog_7_method_2_code
def yX5_fit : MethodName := ⟨RX5, "fit", "(II)V"⟩
abbrev cX5_fitFrom : ByteArray := prog_7_method_3_code
def yX5_fitFrom : MethodName := ⟨RX5, "fitFrom", "(IIJ)V"⟩
abbrev cX5_keepStarts : ByteArray := prog_7_method_4_code
def yX5_keepStarts : MethodName := ⟨RX5, "keepStarts", "()V"⟩
abbrev cX5_breakCount : ByteArray := prog_7_method_5_code
def yX5_breakCount : MethodName := ⟨RX5, "breakCount", "()I"⟩
abbrev cX5_breakYear : ByteArray := prog_7_method_6_code
def yX5_breakYear : MethodName := ⟨RX5, "breakYear", "(I)I"⟩
abbrev cX5_scaledShift : ByteArray := prog_7_method_7_code
def yX5_scaledShift : MethodName := ⟨RX5, "scaledShift", "(I)J"⟩
abbrev cX5_scaledCost : ByteArray := prog_7_method_8_code
def yX5_scaledCost : MethodName := ⟨RX5, "scaledCost", "()J"⟩
abbrev cX5_scaledSpreads : ByteArray := prog_7_method_9_code
def yX5_scaledSpreads : MethodName := ⟨RX5, "scaledSpreads", "(II)J"⟩
abbrev cX5_addRun : ByteArray := prog_7_method_10_code
def yX5_addRun : MethodName := ⟨RX5, "addRun", "(II)V"⟩
def RX6 : String := "ShiftMender$Series"
def TX6 : u_T := fun k => match k with
  | 0 => ("ShiftMender$Series", "length", "I", false)
  | 1 => ("ShiftMender$Series", "entries", "[I", true)
  | 2 => ("ShiftMender$Series", "years", "[I", true)
  | 3 => ("ShiftMender$Series", "sums", "[J", true)
  | _ => ("ShiftMender$Series", "squares", "[J", true)
def tyX6 : Nat → FieldType := fun k => match k with
  | 0 => .int
  | 1 => .array .int
  | 2 => .array .int
  | 3 => .array .long
  | _ => .array .long
abbrev wsX60 : List Cond := u_ws RX6 TX6 5
theorem nmX6 : ∀ a, a < 5 → ∀ b, b < 5 → a ≠ b → (TX6 a).2.1 ≠ (TX6 b).2.1 := by decide +kernel
theorem tyX6_ok : ∀ k, k < 5 → parseFieldDescriptor (TX6 k).2.2.1 = some (tyX6 k) := by decide +kernel
abbrev cX6_init : ByteArray := prog_8_method_1_code
def yX6_init : MethodName := ⟨RX6, "<init>", "()V"⟩
abbrev cX6_compare : ByteArray := prog_8_method_2_code
def yX6_compare : MethodName := ⟨RX6, "compare", "(LShiftMender$Records;II)V"⟩
abbrev cX6_add : ByteArray := prog_8_method_3_code
def yX6_add : MethodName := ⟨RX6, "add", "(II)V"⟩
abbrev cX6_length : ByteArray := prog_8_method_4_code
def yX6_length : MethodName := ⟨RX6, "length", "()I"⟩
abbrev cX6_entryAt : ByteArray := prog_8_method_5_code
def yX6_entryAt : MethodName := ⟨RX6, "entryAt", "(I)I"⟩
abbrev cX6_yearAt : ByteArray := prog_8_method_6_code
def yX6_yearAt : MethodName := ⟨RX6, "yearAt", "(I)I"⟩
abbrev cX6_scaledMean : ByteArray := prog_8_method_7_code
def yX6_scaledMean : MethodName := ⟨RX6, "scaledMean", "(II)J"⟩
abbrev cX6_scaledSpread : ByteArray := prog_8_method_8_code
def yX6_scaledSpread : MethodName := ⟨RX6, "scaledSpread", "(II)J"⟩
def RX7 : String := "ShiftMender"
def TX7 : u_T := fun k => match k with
  | 0 => ("ShiftMender", "script", "LShiftMender$Script;", true)
  | 1 => ("ShiftMender", "records", "LShiftMender$Records;", true)
  | 2 => ("ShiftMender", "series", "LShiftMender$Series;", true)
  | 3 => ("ShiftMender", "segmentation", "LShiftMender$Segmentation;", true)
  | 4 => ("ShiftMender", "culprits", "LShiftMender$Culprits;", true)
  | 5 => ("ShiftMender", "history", "LShiftMender$History;", true)
  | _ => ("ShiftMender", "ledger", "LShiftMender$Ledger;", true)
def tyX7 : Nat → FieldType := fun k => match k with
  | 0 => .object "ShiftMender$Script"
  | 1 => .object "ShiftMender$Records"
  | 2 => .object "ShiftMender$Series"
  | 3 => .object "ShiftMender$Segmentation"
  | 4 => .object "ShiftMender$Culprits"
  | 5 => .object "ShiftMender$History"
  | _ => .object "ShiftMender$Ledger"
abbrev wsX70 : List Cond := u_ws RX7 TX7 7
theorem nmX7 : ∀ a, a < 7 → ∀ b, b < 7 → a ≠ b → (TX7 a).2.1 ≠ (TX7 b).2.1 := by decide +kernel
theorem tyX7_ok : ∀ k, k < 7 → parseFieldDescriptor (TX7 k).2.2.1 = some (tyX7 k) := by decide +kernel
abbrev cX7_init : ByteArray := prog_1_method_1_code
def yX7_init : MethodName := ⟨RX7, "<init>", "()V"⟩
abbrev cX7_write : ByteArray := prog_1_method_2_code
def yX7_write : MethodName := ⟨RX7, "write", "(I)I"⟩
abbrev cX7_wipe : ByteArray := prog_1_method_3_code
def yX7_wipe : MethodName := ⟨RX7, "wipe", "()I"⟩
abbrev cX7_fault : ByteArray := prog_1_method_4_code
def yX7_fault : MethodName := ⟨RX7, "fault", "()I"⟩
abbrev cX7_lay : ByteArray := prog_1_method_5_code
def yX7_lay : MethodName := ⟨RX7, "lay", "()I"⟩
abbrev cX7_layScript : ByteArray := prog_1_method_6_code
def yX7_layScript : MethodName := ⟨RX7, "layScript", "()I"⟩
abbrev cX7_value : ByteArray := prog_1_method_7_code
def yX7_value : MethodName := ⟨RX7, "value", "(II)I"⟩
abbrev cX7_shown : ByteArray := prog_1_method_8_code
def yX7_shown : MethodName := ⟨RX7, "shown", "(I)I"⟩
abbrev cX7_isValue : ByteArray := prog_1_method_9_code
def yX7_isValue : MethodName := ⟨RX7, "isValue", "(I)Z"⟩
abbrev cX7_set : ByteArray := prog_1_method_10_code
def yX7_set : MethodName := ⟨RX7, "set", "(III)I"⟩
abbrev cX7_lose : ByteArray := prog_1_method_11_code
def yX7_lose : MethodName := ⟨RX7, "lose", "(II)I"⟩
abbrev cX7_changeValue : ByteArray := prog_1_method_12_code
def yX7_changeValue : MethodName := ⟨RX7, "changeValue", "(III)Z"⟩
abbrev cX7_penalty : ByteArray := prog_1_method_13_code
def yX7_penalty : MethodName := ⟨RX7, "penalty", "(I)I"⟩
abbrev cX7_isPenalty : ByteArray := prog_1_method_14_code
def yX7_isPenalty : MethodName := ⟨RX7, "isPenalty", "(I)Z"⟩
abbrev cX7_rule : ByteArray := prog_1_method_15_code
def yX7_rule : MethodName := ⟨RX7, "rule", "(II)I"⟩
abbrev cX7_isRule : ByteArray := prog_1_method_16_code
def yX7_isRule : MethodName := ⟨RX7, "isRule", "(II)Z"⟩
abbrev cX7_undo : ByteArray := prog_1_method_17_code
def yX7_undo : MethodName := ⟨RX7, "undo", "()I"⟩
abbrev cX7_day : ByteArray := prog_1_method_18_code
def yX7_day : MethodName := ⟨RX7, "day", "(II)I"⟩
abbrev cX7_remainder : ByteArray := prog_1_method_19_code
def yX7_remainder : MethodName := ⟨RX7, "remainder", "(II)I"⟩
abbrev cX7_nearest : ByteArray := prog_1_method_20_code
def yX7_nearest : MethodName := ⟨RX7, "nearest", "(II)I"⟩
abbrev cX7_pair : ByteArray := prog_1_method_21_code
def yX7_pair : MethodName := ⟨RX7, "pair", "(II)I"⟩
abbrev cX7_areTwoStations : ByteArray := prog_1_method_22_code
def yX7_areTwoStations : MethodName := ⟨RX7, "areTwoStations", "(II)Z"⟩
abbrev cX7_entry : ByteArray := prog_1_method_23_code
def yX7_entry : MethodName := ⟨RX7, "entry", "(III)I"⟩
abbrev cX7_year : ByteArray := prog_1_method_24_code
def yX7_year : MethodName := ⟨RX7, "year", "(III)I"⟩
abbrev cX7_spread : ByteArray := prog_1_method_25_code
def yX7_spread : MethodName := ⟨RX7, "spread", "(IIII)J"⟩
abbrev cX7_split : ByteArray := prog_1_method_26_code
def yX7_split : MethodName := ⟨RX7, "split", "(III)I"⟩
abbrev cX7_segment : ByteArray := prog_1_method_27_code
def yX7_segment : MethodName := ⟨RX7, "segment", "(III)V"⟩
abbrev cX7_cost : ByteArray := prog_1_method_28_code
def yX7_cost : MethodName := ⟨RX7, "cost", "(II)J"⟩
abbrev cX7_spreads : ByteArray := prog_1_method_29_code
def yX7_spreads : MethodName := ⟨RX7, "spreads", "(III)J"⟩
abbrev cX7_breaks : ByteArray := prog_1_method_30_code
def yX7_breaks : MethodName := ⟨RX7, "breaks", "(III)I"⟩
abbrev cX7_least : ByteArray := prog_1_method_31_code
def yX7_least : MethodName := ⟨RX7, "least", "(III)I"⟩
abbrev cX7_votes : ByteArray := prog_1_method_32_code
def yX7_votes : MethodName := ⟨RX7, "votes", "(II)I"⟩
abbrev cX7_culprit : ByteArray := prog_1_method_33_code
def yX7_culprit : MethodName := ⟨RX7, "culprit", "(II)I"⟩
abbrev cX7_mend : ByteArray := prog_1_method_34_code
def yX7_mend : MethodName := ⟨RX7, "mend", "(I)I"⟩
abbrev cX7_mendCulprit : ByteArray := prog_1_method_35_code
def yX7_mendCulprit : MethodName := ⟨RX7, "mendCulprit", "(I)I"⟩
abbrev cX7_mends : ByteArray := prog_1_method_36_code
def yX7_mends : MethodName := ⟨RX7, "mends", "()I"⟩
abbrev cX7_ledger : ByteArray := prog_1_method_37_code
def yX7_ledger : MethodName := ⟨RX7, "ledger", "(II)I"⟩
abbrev cX7_made : ByteArray := prog_1_method_38_code
def yX7_made : MethodName := ⟨RX7, "made", "(II)I"⟩
abbrev cX7_make : ByteArray := prog_1_method_39_code
def yX7_make : MethodName := ⟨RX7, "make", "(II)I"⟩
abbrev cX7_estimate : ByteArray := prog_1_method_40_code
def yX7_estimate : MethodName := ⟨RX7, "estimate", "(II)I"⟩
abbrev cX7_roundedMean : ByteArray := prog_1_method_41_code
def yX7_roundedMean : MethodName := ⟨RX7, "roundedMean", "(JI)I"⟩
abbrev cX7_rise : ByteArray := prog_1_method_42_code
def yX7_rise : MethodName := ⟨RX7, "rise", "(I)I"⟩
abbrev cX7_direction : ByteArray := prog_1_method_43_code
def yX7_direction : MethodName := ⟨RX7, "direction", "(II)I"⟩
abbrev cX7_count : ByteArray := prog_1_method_44_code
def yX7_count : MethodName := ⟨RX7, "count", "(I)I"⟩
def RX8 : String := "ShiftMenderModel"
def TX8 : u_T := fun k => match k with
  | 0 => ("ShiftMenderModel", "length", "I", false)
  | 1 => ("ShiftMenderModel", "text", "[I", true)
  | 2 => ("ShiftMenderModel", "stations", "I", false)
  | 3 => ("ShiftMenderModel", "years", "I", false)
  | 4 => ("ShiftMenderModel", "px", "[I", true)
  | 5 => ("ShiftMenderModel", "py", "[I", true)
  | 6 => ("ShiftMenderModel", "now", "[I", true)
  | 7 => ("ShiftMenderModel", "readStations", "I", false)
  | 8 => ("ShiftMenderModel", "readYears", "I", false)
  | 9 => ("ShiftMenderModel", "readX", "[I", true)
  | 10 => ("ShiftMenderModel", "readY", "[I", true)
  | 11 => ("ShiftMenderModel", "read", "[I", true)
  | 12 => ("ShiftMenderModel", "before", "[I", true)
  | 13 => ("ShiftMenderModel", "undoMany", "I", false)
  | 14 => ("ShiftMenderModel", "ledgers", "[I", true)
  | 15 => ("ShiftMenderModel", "spot", "I", false)
  | 16 => ("ShiftMenderModel", "many", "I", false)
  | 17 => ("ShiftMenderModel", "entry", "[J", true)
  | 18 => ("ShiftMenderModel", "entryYear", "[I", true)
  | 19 => ("ShiftMenderModel", "rest", "[J", true)
  | 20 => ("ShiftMenderModel", "breakMany", "I", false)
  | 21 => ("ShiftMenderModel", "breakAt", "[I", true)
  | 22 => ("ShiftMenderModel", "isKnown", "Z", false)
  | 23 => ("ShiftMenderModel", "all", "[I", true)
  | 24 => ("ShiftMenderModel", "left", "[I", true)
  | 25 => ("ShiftMenderModel", "culprits", "I", false)
  | 26 => ("ShiftMenderModel", "who", "[I", true)
  | 27 => ("ShiftMenderModel", "when", "[I", true)
  | 28 => ("ShiftMenderModel", "voted", "[I", true)
  | 29 => ("ShiftMenderModel", "with", "[I", true)
  | _ => ("ShiftMenderModel", "makes", "I", false)
def tyX8 : Nat → FieldType := fun k => match k with
  | 0 => .int
  | 1 => .array .int
  | 2 => .int
  | 3 => .int
  | 4 => .array .int
  | 5 => .array .int
  | 6 => .array .int
  | 7 => .int
  | 8 => .int
  | 9 => .array .int
  | 10 => .array .int
  | 11 => .array .int
  | 12 => .array .int
  | 13 => .int
  | 14 => .array .int
  | 15 => .int
  | 16 => .int
  | 17 => .array .long
  | 18 => .array .int
  | 19 => .array .long
  | 20 => .int
  | 21 => .array .int
  | 22 => .boolean
  | 23 => .array .int
  | 24 => .array .int
  | 25 => .int
  | 26 => .array .int
  | 27 => .array .int
  | 28 => .array .int
  | 29 => .array .int
  | _ => .int
abbrev wsX80 : List Cond := u_ws RX8 TX8 31
theorem nmX8 : ∀ a, a < 31 → ∀ b, b < 31 → a ≠ b → (TX8 a).2.1 ≠ (TX8 b).2.1 := by decide +kernel
theorem tyX8_ok : ∀ k, k < 31 → parseFieldDescriptor (TX8 k).2.2.1 = some (tyX8 k) := by decide +kernel
abbrev cX8_init : ByteArray := prog_10_method_1_code
def yX8_init : MethodName := ⟨RX8, "<init>", "()V"⟩
abbrev cX8_in : ByteArray := prog_10_method_2_code
def yX8_in : MethodName := ⟨RX8, "in", "(JJJ)Z"⟩
abbrev cX8_has : ByteArray := prog_10_method_3_code
def yX8_has : MethodName := ⟨RX8, "has", "(II)Z"⟩
abbrev cX8_empty : ByteArray := prog_10_method_4_code
def yX8_empty : MethodName := ⟨RX8, "empty", "()V"⟩
abbrev cX8_rulesAre : ByteArray := prog_10_method_5_code
def yX8_rulesAre : MethodName := ⟨RX8, "rulesAre", "(IIII)V"⟩
abbrev cX8_stationIs : ByteArray := prog_10_method_6_code
def yX8_stationIs : MethodName := ⟨RX8, "stationIs", "(II)V"⟩
abbrev cX8_valuesAre : ByteArray := prog_10_method_7_code
def yX8_valuesAre : MethodName := ⟨RX8, "valuesAre", "(IIIIII)V"⟩
abbrev cX8_write : ByteArray := prog_10_method_8_code
def yX8_write : MethodName := ⟨RX8, "write", "(I)I"⟩
abbrev cX8_wipe : ByteArray := prog_10_method_9_code
def yX8_wipe : MethodName := ⟨RX8, "wipe", "()I"⟩
abbrev cX8_letterAt : ByteArray := prog_10_method_10_code
def yX8_letterAt : MethodName := ⟨RX8, "letterAt", "(I)I"⟩
abbrev cX8_sign : ByteArray := prog_10_method_11_code
def yX8_sign : MethodName := ⟨RX8, "sign", "(II)I"⟩
abbrev cX8_ends : ByteArray := prog_10_method_12_code
def yX8_ends : MethodName := ⟨RX8, "ends", "()Z"⟩
abbrev cX8_yearsItem : ByteArray := prog_10_method_13_code
def yX8_yearsItem : MethodName := ⟨RX8, "yearsItem", "()Z"⟩
abbrev cX8_stationItem : ByteArray := prog_10_method_14_code
def yX8_stationItem : MethodName := ⟨RX8, "stationItem", "()Z"⟩
abbrev cX8_penaltyItem : ByteArray := prog_10_method_15_code
def yX8_penaltyItem : MethodName := ⟨RX8, "penaltyItem", "()Z"⟩
abbrev cX8_rulesItem : ByteArray := prog_10_method_16_code
def yX8_rulesItem : MethodName := ⟨RX8, "rulesItem", "()Z"⟩
abbrev cX8_item : ByteArray := prog_10_method_17_code
def yX8_item : MethodName := ⟨RX8, "item", "(I)Z"⟩
abbrev cX8_readAll : ByteArray := prog_10_method_18_code
def yX8_readAll : MethodName := ⟨RX8, "readAll", "()I"⟩
abbrev cX8_fault : ByteArray := prog_10_method_19_code
def yX8_fault : MethodName := ⟨RX8, "fault", "()I"⟩
abbrev cX8_lay : ByteArray := prog_10_method_20_code
def yX8_lay : MethodName := ⟨RX8, "lay", "()I"⟩
abbrev cX8_begin : ByteArray := prog_10_method_21_code
def yX8_begin : MethodName := ⟨RX8, "begin", "()V"⟩
abbrev cX8_isStation : ByteArray := prog_10_method_22_code
def yX8_isStation : MethodName := ⟨RX8, "isStation", "(I)Z"⟩
abbrev cX8_isYear : ByteArray := prog_10_method_23_code
def yX8_isYear : MethodName := ⟨RX8, "isYear", "(I)Z"⟩
abbrev cX8_areTwo : ByteArray := prog_10_method_24_code
def yX8_areTwo : MethodName := ⟨RX8, "areTwo", "(II)Z"⟩
abbrev cX8_valueOf : ByteArray := prog_10_method_25_code
def yX8_valueOf : MethodName := ⟨RX8, "valueOf", "(II)I"⟩
abbrev cX8_isThere : ByteArray := prog_10_method_26_code
def yX8_isThere : MethodName := ⟨RX8, "isThere", "(II)Z"⟩
abbrev cX8_told : ByteArray := prog_10_method_27_code
def yX8_told : MethodName := ⟨RX8, "told", "(I)I"⟩
abbrev cX8_note : ByteArray := prog_10_method_28_code
def yX8_note : MethodName := ⟨RX8, "note", "()V"⟩
abbrev cX8_change : ByteArray := prog_10_method_29_code
def yX8_change : MethodName := ⟨RX8, "change", "(II)I"⟩
abbrev cX8_value : ByteArray := prog_10_method_30_code
def yX8_value : MethodName := ⟨RX8, "value", "(II)I"⟩
abbrev cX8_set : ByteArray := prog_10_method_31_code
def yX8_set : MethodName := ⟨RX8, "set", "(III)I"⟩
abbrev cX8_lose : ByteArray := prog_10_method_32_code
def yX8_lose : MethodName := ⟨RX8, "lose", "(II)I"⟩
abbrev cX8_penalty : ByteArray := prog_10_method_33_code
def yX8_penalty : MethodName := ⟨RX8, "penalty", "(I)I"⟩
abbrev cX8_rule : ByteArray := prog_10_method_34_code
def yX8_rule : MethodName := ⟨RX8, "rule", "(II)I"⟩
abbrev cX8_undo : ByteArray := prog_10_method_35_code
def yX8_undo : MethodName := ⟨RX8, "undo", "()I"⟩
abbrev cX8_day : ByteArray := prog_10_method_36_code
def yX8_day : MethodName := ⟨RX8, "day", "(II)I"⟩
abbrev cX8_square : ByteArray := prog_10_method_37_code
def yX8_square : MethodName := ⟨RX8, "square", "(II)I"⟩
abbrev cX8_rankOf : ByteArray := prog_10_method_38_code
def yX8_rankOf : MethodName := ⟨RX8, "rankOf", "(II)I"⟩
abbrev cX8_nearest : ByteArray := prog_10_method_39_code
def yX8_nearest : MethodName := ⟨RX8, "nearest", "(II)I"⟩
abbrev cX8_isPair : ByteArray := prog_10_method_40_code
def yX8_isPair : MethodName := ⟨RX8, "isPair", "(II)Z"⟩
abbrev cX8_pair : ByteArray := prog_10_method_41_code
def yX8_pair : MethodName := ⟨RX8, "pair", "(II)I"⟩
abbrev cX8_rowOf : ByteArray := prog_10_method_42_code
def yX8_rowOf : MethodName := ⟨RX8, "rowOf", "(II)V"⟩
abbrev cX8_sumOf : ByteArray := prog_10_method_43_code
def yX8_sumOf : MethodName := ⟨RX8, "sumOf", "(II)J"⟩
abbrev cX8_spreadOf : ByteArray := prog_10_method_44_code
def yX8_spreadOf : MethodName := ⟨RX8, "spreadOf", "(II)J"⟩
abbrev cX8_learn : ByteArray := prog_10_method_45_code
def yX8_learn : MethodName := ⟨RX8, "learn", "(II)V"⟩
abbrev cX8_breaksBy : ByteArray := prog_10_method_46_code
def yX8_breaksBy : MethodName := ⟨RX8, "breaksBy", "(I)I"⟩
abbrev cX8_findBest : ByteArray := prog_10_method_47_code
def yX8_findBest : MethodName := ⟨RX8, "findBest", "(II)V"⟩
abbrev cX8_entry : ByteArray := prog_10_method_48_code
def yX8_entry : MethodName := ⟨RX8, "entry", "(III)I"⟩
abbrev cX8_year : ByteArray := prog_10_method_49_code
def yX8_year : MethodName := ⟨RX8, "year", "(III)I"⟩
abbrev cX8_spread : ByteArray := prog_10_method_50_code
def yX8_spread : MethodName := ⟨RX8, "spread", "(IIII)J"⟩
abbrev cX8_split : ByteArray := prog_10_method_51_code
def yX8_split : MethodName := ⟨RX8, "split", "(III)I"⟩
abbrev cX8_cost : ByteArray := prog_10_method_52_code
def yX8_cost : MethodName := ⟨RX8, "cost", "(II)J"⟩
abbrev cX8_spreads : ByteArray := prog_10_method_53_code
def yX8_spreads : MethodName := ⟨RX8, "spreads", "(III)J"⟩
abbrev cX8_breaks : ByteArray := prog_10_method_54_code
def yX8_breaks : MethodName := ⟨RX8, "breaks", "(III)I"⟩
abbrev cX8_least : ByteArray := prog_10_method_55_code
def yX8_least : MethodName := ⟨RX8, "least", "(III)I"⟩
abbrev cX8_findBreaks : ByteArray := prog_10_method_56_code
def yX8_findBreaks : MethodName := ⟨RX8, "findBreaks", "()V"⟩
abbrev cX8_withWhom : ByteArray := prog_10_method_57_code
def yX8_withWhom : MethodName := ⟨RX8, "withWhom", "([III)I"⟩
abbrev cX8_ones : ByteArray := prog_10_method_58_code
def yX8_ones : MethodName := ⟨RX8, "ones", "(I)I"⟩
abbrev cX8_finds : ByteArray := prog_10_method_59_code
def yX8_finds : MethodName := ⟨RX8, "finds", "(II)V"⟩
abbrev cX8_know : ByteArray := prog_10_method_60_code
def yX8_know : MethodName := ⟨RX8, "know", "()V"⟩
abbrev cX8_votes : ByteArray := prog_10_method_61_code
def yX8_votes : MethodName := ⟨RX8, "votes", "(II)I"⟩
abbrev cX8_nearestOf : ByteArray := prog_10_method_62_code
def yX8_nearestOf : MethodName := ⟨RX8, "nearestOf", "(JJ)J"⟩
abbrev cX8_rises : ByteArray := prog_10_method_63_code
def yX8_rises : MethodName := ⟨RX8, "rises", "(III)J"⟩
abbrev cX8_sizeOf : ByteArray := prog_10_method_64_code
def yX8_sizeOf : MethodName := ⟨RX8, "sizeOf", "(I)I"⟩
abbrev cX8_culprit : ByteArray := prog_10_method_65_code
def yX8_culprit : MethodName := ⟨RX8, "culprit", "(II)I"⟩
abbrev cX8_mend : ByteArray := prog_10_method_66_code
def yX8_mend : MethodName := ⟨RX8, "mend", "(I)I"⟩
abbrev cX8_mends : ByteArray := prog_10_method_67_code
def yX8_mends : MethodName := ⟨RX8, "mends", "()I"⟩
abbrev cX8_ledger : ByteArray := prog_10_method_68_code
def yX8_ledger : MethodName := ⟨RX8, "ledger", "(II)I"⟩
abbrev cX8_canMake : ByteArray := prog_10_method_69_code
def yX8_canMake : MethodName := ⟨RX8, "canMake", "(II)Z"⟩
abbrev cX8_made : ByteArray := prog_10_method_70_code
def yX8_made : MethodName := ⟨RX8, "made", "(II)I"⟩
abbrev cX8_make : ByteArray := prog_10_method_71_code
def yX8_make : MethodName := ⟨RX8, "make", "(II)I"⟩
abbrev cX8_rise : ByteArray := prog_10_method_72_code
def yX8_rise : MethodName := ⟨RX8, "rise", "(I)I"⟩
abbrev cX8_pairs : ByteArray := prog_10_method_73_code
def yX8_pairs : MethodName := ⟨RX8, "pairs", "()I"⟩
abbrev cX8_missing : ByteArray := prog_10_method_74_code
def yX8_missing : MethodName := ⟨RX8, "missing", "()I"⟩
abbrev cX8_count : ByteArray := prog_10_method_75_code
def yX8_count : MethodName := ⟨RX8, "count", "(I)I"⟩
def RJ9 : String := "java/lang/Math"
def TJ9 : u_T := fun k => match k with
  | _ => ("", "", "", false)
def tyJ9 : Nat → FieldType := fun k => match k with
  | _ => .int
abbrev cJ9_floorDiv_f86c9 : ByteArray := prog_11_method_49_code
def yJ9_floorDiv_f86c9 : MethodName := ⟨RJ9, "floorDiv", "(JJ)J"⟩
abbrev cJ9_max_7cf53 : ByteArray := prog_11_method_65_code
def yJ9_max_7cf53 : MethodName := ⟨RJ9, "max", "(II)I"⟩
abbrev cJ9_min_7cf53 : ByteArray := prog_11_method_69_code
def yJ9_min_7cf53 : MethodName := ⟨RJ9, "min", "(II)I"⟩
abbrev cJ9_min_f86c9 : ByteArray := prog_11_method_70_code
def yJ9_min_f86c9 : MethodName := ⟨RJ9, "min", "(JJ)J"⟩
def RJ0 : String := "java/lang/String"
def TJ0 : u_T := fun k => match k with
  | _ => ("", "", "", false)
def tyJ0 : Nat → FieldType := fun k => match k with
  | _ => .int
abbrev cJ0_length_8abf5 : ByteArray := prog_12_method_54_code
def yJ0_length_8abf5 : MethodName := ⟨RJ0, "length", "()I"⟩
abbrev cJ0_charAt_5068e : ByteArray := prog_12_method_56_code
def yJ0_charAt_5068e : MethodName := ⟨RJ0, "charAt", "(I)C"⟩
abbrev cJ0_coder_7d493 : ByteArray := prog_12_method_152_code
def yJ0_coder_7d493 : MethodName := ⟨RJ0, "coder", "()B"⟩
abbrev cJ0_isLatin1_aae02 : ByteArray := prog_12_method_154_code
def yJ0_isLatin1_aae02 : MethodName := ⟨RJ0, "isLatin1", "()Z"⟩
abbrev cJ0_checkIndex_df160 : ByteArray := prog_12_method_155_code
def yJ0_checkIndex_df160 : MethodName := ⟨RJ0, "checkIndex", "(II)V"⟩
def RJ1 : String := "java/lang/StringLatin1"
def TJ1 : u_T := fun k => match k with
  | _ => ("", "", "", false)
def tyJ1 : Nat → FieldType := fun k => match k with
  | _ => .int
abbrev cJ1_charAt_3b067 : ByteArray := prog_13_method_2_code
def yJ1_charAt_3b067 : MethodName := ⟨RJ1, "charAt", "([BI)C"⟩
def RJ2 : String := "java/lang/StringUTF16"
def TJ2 : u_T := fun k => match k with
  | _ => ("", "", "", false)
def tyJ2 : Nat → FieldType := fun k => match k with
  | _ => .int
abbrev cJ2_getChar_3b067 : ByteArray := prog_14_method_5_code
def yJ2_getChar_3b067 : MethodName := ⟨RJ2, "getChar", "([BI)C"⟩
abbrev cJ2_length_9d52b : ByteArray := prog_14_method_6_code
def yJ2_length_9d52b : MethodName := ⟨RJ2, "length", "([B)I"⟩
abbrev cJ2_charAt_3b067 : ByteArray := prog_14_method_83_code
def yJ2_charAt_3b067 : MethodName := ⟨RJ2, "charAt", "([BI)C"⟩
abbrev cJ2_checkIndex_2214a : ByteArray := prog_14_method_91_code
def yJ2_checkIndex_2214a : MethodName := ⟨RJ2, "checkIndex", "(I[B)V"⟩
def RJ3 : String := "jdk/internal/util/Preconditions"
def TJ3 : u_T := fun k => match k with
  | _ => ("", "", "", false)
def tyJ3 : Nat → FieldType := fun k => match k with
  | _ => .int
abbrev cJ3_checkIndex_8e157 : ByteArray := prog_15_method_11_code
def yJ3_checkIndex_8e157 : MethodName := ⟨RJ3, "checkIndex", "(IILjava/util/function/BiFunction;)I"⟩
def RL : String := "ShiftMenderLaw"
abbrev cL_law : ByteArray := code
def yL_law : MethodName := ⟨RL, "law", "([I)Z"⟩
abbrev vwCl : List vw_C := [(RX0, TX0, 13), (RX1, TX1, 3), (RX2, TX2, 2), (RX3, TX3, 8), (RX4, TX4, 3), (RX5, TX5, 6), (RX6, TX6, 5), (RX7, TX7, 7), (RX8, TX8, 31)]
end
section
theorem dX0_init_0 : decode cX0_init 0 = .ok (.aload_n 0, 1) := by decide +kernel
theorem dX0_init_1 : decode cX0_init 1 = .ok (.invokespecial 3, 3) := by decide +kernel
theorem dX0_init_4 : decode cX0_init 4 = .ok (.aload_n 0, 1) := by decide +kernel
theorem dX0_init_5 : decode cX0_init 5 = .ok (.iconst (-1), 1) := by decide +kernel
theorem dX0_init_6 : decode cX0_init 6 = .ok (.putfield 9, 3) := by decide +kernel
theorem dX0_init_9 : decode cX0_init 9 = .ok (.aload_n 0, 1) := by decide +kernel
theorem dX0_init_10 : decode cX0_init 10 = .ok (.bipush 15, 2) := by decide +kernel
theorem dX0_init_12 : decode cX0_init 12 = .ok (.newarray .int, 2) := by decide +kernel
theorem dX0_init_14 : decode cX0_init 14 = .ok (.putfield 15, 3) := by decide +kernel
theorem dX0_init_17 : decode cX0_init 17 = .ok (.aload_n 0, 1) := by decide +kernel
theorem dX0_init_18 : decode cX0_init 18 = .ok (.bipush 15, 2) := by decide +kernel
theorem dX0_init_20 : decode cX0_init 20 = .ok (.newarray .int, 2) := by decide +kernel
theorem dX0_init_22 : decode cX0_init 22 = .ok (.putfield 19, 3) := by decide +kernel
theorem dX0_init_25 : decode cX0_init 25 = .ok (.aload_n 0, 1) := by decide +kernel
theorem dX0_init_26 : decode cX0_init 26 = .ok (.bipush 15, 2) := by decide +kernel
theorem dX0_init_28 : decode cX0_init 28 = .ok (.bipush 16, 2) := by decide +kernel
theorem dX0_init_30 : decode cX0_init 30 = .ok (.multianewarray 22 2, 4) := by decide +kernel
theorem dX0_init_34 : decode cX0_init 34 = .ok (.putfield 24, 3) := by decide +kernel
theorem dX0_init_37 : decode cX0_init 37 = .ok (.aload_n 0, 1) := by decide +kernel
theorem dX0_init_38 : decode cX0_init 38 = .ok (.bipush 15, 2) := by decide +kernel
theorem dX0_init_40 : decode cX0_init 40 = .ok (.bipush 16, 2) := by decide +kernel
theorem dX0_init_42 : decode cX0_init 42 = .ok (.multianewarray 27 2, 4) := by decide +kernel
theorem dX0_init_46 : decode cX0_init 46 = .ok (.putfield 29, 3) := by decide +kernel
theorem dX0_init_49 : decode cX0_init 49 = .ok (.aload_n 0, 1) := by decide +kernel
theorem dX0_init_50 : decode cX0_init 50 = .ok (.bipush 6, 2) := by decide +kernel
theorem dX0_init_52 : decode cX0_init 52 = .ok (.bipush 16, 2) := by decide +kernel
theorem dX0_init_54 : decode cX0_init 54 = .ok (.multianewarray 22 2, 4) := by decide +kernel
theorem dX0_init_58 : decode cX0_init 58 = .ok (.putfield 32, 3) := by decide +kernel
theorem dX0_init_61 : decode cX0_init 61 = .ok (.aload_n 0, 1) := by decide +kernel
theorem dX0_init_62 : decode cX0_init 62 = .ok (.bipush 6, 2) := by decide +kernel
theorem dX0_init_64 : decode cX0_init 64 = .ok (.bipush 16, 2) := by decide +kernel
theorem dX0_init_66 : decode cX0_init 66 = .ok (.multianewarray 22 2, 4) := by decide +kernel
theorem dX0_init_70 : decode cX0_init 70 = .ok (.putfield 35, 3) := by decide +kernel
theorem dX0_init_73 : decode cX0_init 73 = .ok (.aload_n 0, 1) := by decide +kernel
theorem dX0_init_74 : decode cX0_init 74 = .ok (.iconst 4, 1) := by decide +kernel
theorem dX0_init_75 : decode cX0_init 75 = .ok (.bipush 96, 2) := by decide +kernel
theorem dX0_init_77 : decode cX0_init 77 = .ok (.multianewarray 22 2, 4) := by decide +kernel
theorem dX0_init_81 : decode cX0_init 81 = .ok (.putfield 38, 3) := by decide +kernel
theorem dX0_init_84 : decode cX0_init 84 = .ok (.aload_n 0, 1) := by decide +kernel
theorem dX0_init_85 : decode cX0_init 85 = .ok (.aload_n 1, 1) := by decide +kernel
theorem dX0_init_86 : decode cX0_init 86 = .ok (.putfield 41, 3) := by decide +kernel
theorem dX0_init_89 : decode cX0_init 89 = .ok (.aload_n 0, 1) := by decide +kernel
theorem dX0_init_90 : decode cX0_init 90 = .ok (.aload_n 2, 1) := by decide +kernel
theorem dX0_init_91 : decode cX0_init 91 = .ok (.putfield 45, 3) := by decide +kernel
theorem dX0_init_94 : decode cX0_init 94 = .ok (.aload_n 0, 1) := by decide +kernel
theorem dX0_init_95 : decode cX0_init 95 = .ok (.aload_n 3, 1) := by decide +kernel
theorem dX0_init_96 : decode cX0_init 96 = .ok (.putfield 49, 3) := by decide +kernel
theorem dX0_init_99 : decode cX0_init 99 = .ok (.return_, 1) := by decide +kernel
theorem dX0_refresh_0 : decode cX0_refresh 0 = .ok (.aload_n 0, 1) := by decide +kernel
theorem dX0_refresh_1 : decode cX0_refresh 1 = .ok (.getfield 9, 3) := by decide +kernel
theorem dX0_refresh_4 : decode cX0_refresh 4 = .ok (.aload_n 0, 1) := by decide +kernel
theorem dX0_refresh_5 : decode cX0_refresh 5 = .ok (.getfield 41, 3) := by decide +kernel
theorem dX0_refresh_8 : decode cX0_refresh 8 = .ok (.invokevirtual 53, 3) := by decide +kernel
theorem dX0_refresh_11 : decode cX0_refresh 11 = .ok (.if_icmp .ne 4, 3) := by decide +kernel
theorem dX0_refresh_14 : decode cX0_refresh 14 = .ok (.return_, 1) := by decide +kernel
theorem dX0_refresh_15 : decode cX0_refresh 15 = .ok (.aload_n 0, 1) := by decide +kernel
theorem dX0_refresh_16 : decode cX0_refresh 16 = .ok (.aload_n 0, 1) := by decide +kernel
theorem dX0_refresh_17 : decode cX0_refresh 17 = .ok (.getfield 41, 3) := by decide +kernel
theorem dX0_refresh_20 : decode cX0_refresh 20 = .ok (.invokevirtual 53, 3) := by decide +kernel
theorem dX0_refresh_23 : decode cX0_refresh 23 = .ok (.putfield 9, 3) := by decide +kernel
theorem dX0_refresh_26 : decode cX0_refresh 26 = .ok (.aload_n 0, 1) := by decide +kernel
theorem dX0_refresh_27 : decode cX0_refresh 27 = .ok (.invokevirtual 58, 3) := by decide +kernel
theorem dX0_refresh_30 : decode cX0_refresh 30 = .ok (.iconst 0, 1) := by decide +kernel
theorem dX0_refresh_31 : decode cX0_refresh 31 = .ok (.istore_n 1, 1) := by decide +kernel
theorem dX0_refresh_32 : decode cX0_refresh 32 = .ok (.iload_n 1, 1) := by decide +kernel
theorem dX0_refresh_33 : decode cX0_refresh 33 = .ok (.aload_n 0, 1) := by decide +kernel
theorem dX0_refresh_34 : decode cX0_refresh 34 = .ok (.getfield 41, 3) := by decide +kernel
theorem dX0_refresh_37 : decode cX0_refresh 37 = .ok (.invokevirtual 61, 3) := by decide +kernel
theorem dX0_refresh_40 : decode cX0_refresh 40 = .ok (.if_icmp .ge 48, 3) := by decide +kernel
theorem dX0_refresh_43 : decode cX0_refresh 43 = .ok (.iload_n 1, 1) := by decide +kernel
theorem dX0_refresh_44 : decode cX0_refresh 44 = .ok (.iconst 1, 1) := by decide +kernel
theorem dX0_refresh_45 : decode cX0_refresh 45 = .ok (.iadd, 1) := by decide +kernel
theorem dX0_refresh_46 : decode cX0_refresh 46 = .ok (.istore_n 2, 1) := by decide +kernel
theorem dX0_refresh_47 : decode cX0_refresh 47 = .ok (.iload_n 2, 1) := by decide +kernel
theorem dX0_refresh_48 : decode cX0_refresh 48 = .ok (.aload_n 0, 1) := by decide +kernel
theorem dX0_refresh_49 : decode cX0_refresh 49 = .ok (.getfield 41, 3) := by decide +kernel
theorem dX0_refresh_52 : decode cX0_refresh 52 = .ok (.invokevirtual 61, 3) := by decide +kernel
theorem dX0_refresh_55 : decode cX0_refresh 55 = .ok (.if_icmp .ge 27, 3) := by decide +kernel
theorem dX0_refresh_58 : decode cX0_refresh 58 = .ok (.aload_n 0, 1) := by decide +kernel
theorem dX0_refresh_59 : decode cX0_refresh 59 = .ok (.getfield 41, 3) := by decide +kernel
theorem dX0_refresh_62 : decode cX0_refresh 62 = .ok (.iload_n 1, 1) := by decide +kernel
theorem dX0_refresh_63 : decode cX0_refresh 63 = .ok (.iload_n 2, 1) := by decide +kernel
theorem dX0_refresh_64 : decode cX0_refresh 64 = .ok (.invokevirtual 64, 3) := by decide +kernel
theorem dX0_refresh_67 : decode cX0_refresh 67 = .ok (.ifCond .eq 9, 3) := by decide +kernel
theorem dX0_refresh_70 : decode cX0_refresh 70 = .ok (.aload_n 0, 1) := by decide +kernel
theorem dX0_refresh_71 : decode cX0_refresh 71 = .ok (.iload_n 1, 1) := by decide +kernel
theorem dX0_refresh_72 : decode cX0_refresh 72 = .ok (.iload_n 2, 1) := by decide +kernel
theorem dX0_refresh_73 : decode cX0_refresh 73 = .ok (.invokevirtual 68, 3) := by decide +kernel
theorem dX0_refresh_76 : decode cX0_refresh 76 = .ok (.iinc 2 1, 3) := by decide +kernel
theorem dX0_refresh_79 : decode cX0_refresh 79 = .ok (.goto (-32), 3) := by decide +kernel
theorem dX0_refresh_82 : decode cX0_refresh 82 = .ok (.iinc 1 1, 3) := by decide +kernel
theorem dX0_refresh_85 : decode cX0_refresh 85 = .ok (.goto (-53), 3) := by decide +kernel
theorem dX0_refresh_88 : decode cX0_refresh 88 = .ok (.aload_n 0, 1) := by decide +kernel
theorem dX0_refresh_89 : decode cX0_refresh 89 = .ok (.getfield 72, 3) := by decide +kernel
theorem dX0_refresh_92 : decode cX0_refresh 92 = .ok (.bipush 96, 2) := by decide +kernel
theorem dX0_refresh_94 : decode cX0_refresh 94 = .ok (.if_icmp .ge 49, 3) := by decide +kernel
theorem dX0_refresh_97 : decode cX0_refresh 97 = .ok (.aload_n 0, 1) := by decide +kernel
theorem dX0_refresh_98 : decode cX0_refresh 98 = .ok (.invokevirtual 75, 3) := by decide +kernel
theorem dX0_refresh_101 : decode cX0_refresh 101 = .ok (.ifCond .eq 42, 3) := by decide +kernel
theorem dX0_refresh_104 : decode cX0_refresh 104 = .ok (.aload_n 0, 1) := by decide +kernel
theorem dX0_refresh_105 : decode cX0_refresh 105 = .ok (.aload_n 0, 1) := by decide +kernel
theorem dX0_refresh_106 : decode cX0_refresh 106 = .ok (.getfield 38, 3) := by decide +kernel
theorem dX0_refresh_109 : decode cX0_refresh 109 = .ok (.iconst 0, 1) := by decide +kernel
theorem dX0_refresh_110 : decode cX0_refresh 110 = .ok (.aaload, 1) := by decide +kernel
theorem dX0_refresh_111 : decode cX0_refresh 111 = .ok (.aload_n 0, 1) := by decide +kernel
theorem dX0_refresh_112 : decode cX0_refresh 112 = .ok (.getfield 72, 3) := by decide +kernel
theorem dX0_refresh_115 : decode cX0_refresh 115 = .ok (.iaload, 1) := by decide +kernel
theorem dX0_refresh_116 : decode cX0_refresh 116 = .ok (.aload_n 0, 1) := by decide +kernel
theorem dX0_refresh_117 : decode cX0_refresh 117 = .ok (.getfield 38, 3) := by decide +kernel
theorem dX0_refresh_120 : decode cX0_refresh 120 = .ok (.iconst 1, 1) := by decide +kernel
theorem dX0_refresh_121 : decode cX0_refresh 121 = .ok (.aaload, 1) := by decide +kernel
theorem dX0_refresh_122 : decode cX0_refresh 122 = .ok (.aload_n 0, 1) := by decide +kernel
theorem dX0_refresh_123 : decode cX0_refresh 123 = .ok (.getfield 72, 3) := by decide +kernel
theorem dX0_refresh_126 : decode cX0_refresh 126 = .ok (.iaload, 1) := by decide +kernel
theorem dX0_refresh_127 : decode cX0_refresh 127 = .ok (.invokevirtual 79, 3) := by decide +kernel
theorem dX0_refresh_130 : decode cX0_refresh 130 = .ok (.aload_n 0, 1) := by decide +kernel
theorem dX0_refresh_131 : decode cX0_refresh 131 = .ok (.dup, 1) := by decide +kernel
theorem dX0_refresh_132 : decode cX0_refresh 132 = .ok (.getfield 72, 3) := by decide +kernel
theorem dX0_refresh_135 : decode cX0_refresh 135 = .ok (.iconst 1, 1) := by decide +kernel
theorem dX0_refresh_136 : decode cX0_refresh 136 = .ok (.iadd, 1) := by decide +kernel
theorem dX0_refresh_137 : decode cX0_refresh 137 = .ok (.putfield 72, 3) := by decide +kernel
theorem dX0_refresh_140 : decode cX0_refresh 140 = .ok (.goto (-52), 3) := by decide +kernel
theorem dX0_refresh_143 : decode cX0_refresh 143 = .ok (.return_, 1) := by decide +kernel
theorem dX0_votesCast_0 : decode cX0_votesCast 0 = .ok (.aload_n 0, 1) := by decide +kernel
theorem dX0_votesCast_1 : decode cX0_votesCast 1 = .ok (.getfield 32, 3) := by decide +kernel
theorem dX0_votesCast_4 : decode cX0_votesCast 4 = .ok (.iload_n 1, 1) := by decide +kernel
theorem dX0_votesCast_5 : decode cX0_votesCast 5 = .ok (.aaload, 1) := by decide +kernel
theorem dX0_votesCast_6 : decode cX0_votesCast 6 = .ok (.iload_n 2, 1) := by decide +kernel
theorem dX0_votesCast_7 : decode cX0_votesCast 7 = .ok (.iaload, 1) := by decide +kernel
theorem dX0_votesCast_8 : decode cX0_votesCast 8 = .ok (.ireturn, 1) := by decide +kernel
theorem dX0_length_0 : decode cX0_length 0 = .ok (.aload_n 0, 1) := by decide +kernel
theorem dX0_length_1 : decode cX0_length 1 = .ok (.getfield 72, 3) := by decide +kernel
theorem dX0_length_4 : decode cX0_length 4 = .ok (.ireturn, 1) := by decide +kernel
theorem dX0_property_0 : decode cX0_property 0 = .ok (.aload_n 0, 1) := by decide +kernel
theorem dX0_property_1 : decode cX0_property 1 = .ok (.getfield 38, 3) := by decide +kernel
theorem dX0_property_4 : decode cX0_property 4 = .ok (.iload_n 2, 1) := by decide +kernel
theorem dX0_property_5 : decode cX0_property 5 = .ok (.aaload, 1) := by decide +kernel
theorem dX0_property_6 : decode cX0_property 6 = .ok (.iload_n 1, 1) := by decide +kernel
theorem dX0_property_7 : decode cX0_property 7 = .ok (.iaload, 1) := by decide +kernel
theorem dX0_property_8 : decode cX0_property 8 = .ok (.ireturn, 1) := by decide +kernel
theorem dX0_clear_0 : decode cX0_clear 0 = .ok (.aload_n 0, 1) := by decide +kernel
theorem dX0_clear_1 : decode cX0_clear 1 = .ok (.iconst 0, 1) := by decide +kernel
theorem dX0_clear_2 : decode cX0_clear 2 = .ok (.putfield 72, 3) := by decide +kernel
theorem dX0_clear_5 : decode cX0_clear 5 = .ok (.aload_n 0, 1) := by decide +kernel
theorem dX0_clear_6 : decode cX0_clear 6 = .ok (.iconst 0, 1) := by decide +kernel
theorem dX0_clear_7 : decode cX0_clear 7 = .ok (.putfield 82, 3) := by decide +kernel
theorem dX0_clear_10 : decode cX0_clear 10 = .ok (.iconst 0, 1) := by decide +kernel
theorem dX0_clear_11 : decode cX0_clear 11 = .ok (.istore_n 1, 1) := by decide +kernel
theorem dX0_clear_12 : decode cX0_clear 12 = .ok (.iload_n 1, 1) := by decide +kernel
theorem dX0_clear_13 : decode cX0_clear 13 = .ok (.bipush 16, 2) := by decide +kernel
theorem dX0_clear_15 : decode cX0_clear 15 = .ok (.if_icmp .ge 64, 3) := by decide +kernel
theorem dX0_clear_18 : decode cX0_clear 18 = .ok (.iconst 0, 1) := by decide +kernel
theorem dX0_clear_19 : decode cX0_clear 19 = .ok (.istore_n 2, 1) := by decide +kernel
theorem dX0_clear_20 : decode cX0_clear 20 = .ok (.iload_n 2, 1) := by decide +kernel
theorem dX0_clear_21 : decode cX0_clear 21 = .ok (.bipush 15, 2) := by decide +kernel
theorem dX0_clear_23 : decode cX0_clear 23 = .ok (.if_icmp .ge 18, 3) := by decide +kernel
theorem dX0_clear_26 : decode cX0_clear 26 = .ok (.aload_n 0, 1) := by decide +kernel
theorem dX0_clear_27 : decode cX0_clear 27 = .ok (.getfield 24, 3) := by decide +kernel
theorem dX0_clear_30 : decode cX0_clear 30 = .ok (.iload_n 2, 1) := by decide +kernel
theorem dX0_clear_31 : decode cX0_clear 31 = .ok (.aaload, 1) := by decide +kernel
theorem dX0_clear_32 : decode cX0_clear 32 = .ok (.iload_n 1, 1) := by decide +kernel
theorem dX0_clear_33 : decode cX0_clear 33 = .ok (.iconst 0, 1) := by decide +kernel
theorem dX0_clear_34 : decode cX0_clear 34 = .ok (.iastore, 1) := by decide +kernel
theorem dX0_clear_35 : decode cX0_clear 35 = .ok (.iinc 2 1, 3) := by decide +kernel
theorem dX0_clear_38 : decode cX0_clear 38 = .ok (.goto (-18), 3) := by decide +kernel
theorem dX0_clear_41 : decode cX0_clear 41 = .ok (.iconst 0, 1) := by decide +kernel
theorem dX0_clear_42 : decode cX0_clear 42 = .ok (.istore_n 2, 1) := by decide +kernel
theorem dX0_clear_43 : decode cX0_clear 43 = .ok (.iload_n 2, 1) := by decide +kernel
theorem dX0_clear_44 : decode cX0_clear 44 = .ok (.bipush 6, 2) := by decide +kernel
theorem dX0_clear_46 : decode cX0_clear 46 = .ok (.if_icmp .ge 27, 3) := by decide +kernel
theorem dX0_clear_49 : decode cX0_clear 49 = .ok (.aload_n 0, 1) := by decide +kernel
theorem dX0_clear_50 : decode cX0_clear 50 = .ok (.getfield 32, 3) := by decide +kernel
theorem dX0_clear_53 : decode cX0_clear 53 = .ok (.iload_n 2, 1) := by decide +kernel
theorem dX0_clear_54 : decode cX0_clear 54 = .ok (.aaload, 1) := by decide +kernel
theorem dX0_clear_55 : decode cX0_clear 55 = .ok (.iload_n 1, 1) := by decide +kernel
theorem dX0_clear_56 : decode cX0_clear 56 = .ok (.iconst 0, 1) := by decide +kernel
theorem dX0_clear_57 : decode cX0_clear 57 = .ok (.iastore, 1) := by decide +kernel
theorem dX0_clear_58 : decode cX0_clear 58 = .ok (.aload_n 0, 1) := by decide +kernel
theorem dX0_clear_59 : decode cX0_clear 59 = .ok (.getfield 35, 3) := by decide +kernel
theorem dX0_clear_62 : decode cX0_clear 62 = .ok (.iload_n 2, 1) := by decide +kernel
theorem dX0_clear_63 : decode cX0_clear 63 = .ok (.aaload, 1) := by decide +kernel
theorem dX0_clear_64 : decode cX0_clear 64 = .ok (.iload_n 1, 1) := by decide +kernel
theorem dX0_clear_65 : decode cX0_clear 65 = .ok (.iconst 0, 1) := by decide +kernel
theorem dX0_clear_66 : decode cX0_clear 66 = .ok (.iastore, 1) := by decide +kernel
theorem dX0_clear_67 : decode cX0_clear 67 = .ok (.iinc 2 1, 3) := by decide +kernel
theorem dX0_clear_70 : decode cX0_clear 70 = .ok (.goto (-27), 3) := by decide +kernel
theorem dX0_clear_73 : decode cX0_clear 73 = .ok (.iinc 1 1, 3) := by decide +kernel
theorem dX0_clear_76 : decode cX0_clear 76 = .ok (.goto (-64), 3) := by decide +kernel
theorem dX0_clear_79 : decode cX0_clear 79 = .ok (.return_, 1) := by decide +kernel
theorem dX0_addPair_0 : decode cX0_addPair 0 = .ok (.aload_n 0, 1) := by decide +kernel
theorem dX0_addPair_1 : decode cX0_addPair 1 = .ok (.getfield 82, 3) := by decide +kernel
theorem dX0_addPair_4 : decode cX0_addPair 4 = .ok (.bipush 15, 2) := by decide +kernel
theorem dX0_addPair_6 : decode cX0_addPair 6 = .ok (.if_icmp .lt 4, 3) := by decide +kernel
theorem dX0_addPair_9 : decode cX0_addPair 9 = .ok (.return_, 1) := by decide +kernel
theorem dX0_addPair_10 : decode cX0_addPair 10 = .ok (.aload_n 0, 1) := by decide +kernel
theorem dX0_addPair_11 : decode cX0_addPair 11 = .ok (.getfield 15, 3) := by decide +kernel
theorem dX0_addPair_14 : decode cX0_addPair 14 = .ok (.aload_n 0, 1) := by decide +kernel
theorem dX0_addPair_15 : decode cX0_addPair 15 = .ok (.getfield 82, 3) := by decide +kernel
theorem dX0_addPair_18 : decode cX0_addPair 18 = .ok (.iload_n 1, 1) := by decide +kernel
theorem dX0_addPair_19 : decode cX0_addPair 19 = .ok (.iastore, 1) := by decide +kernel
theorem dX0_addPair_20 : decode cX0_addPair 20 = .ok (.aload_n 0, 1) := by decide +kernel
theorem dX0_addPair_21 : decode cX0_addPair 21 = .ok (.getfield 19, 3) := by decide +kernel
theorem dX0_addPair_24 : decode cX0_addPair 24 = .ok (.aload_n 0, 1) := by decide +kernel
theorem dX0_addPair_25 : decode cX0_addPair 25 = .ok (.getfield 82, 3) := by decide +kernel
theorem dX0_addPair_28 : decode cX0_addPair 28 = .ok (.iload_n 2, 1) := by decide +kernel
theorem dX0_addPair_29 : decode cX0_addPair 29 = .ok (.iastore, 1) := by decide +kernel
theorem dX0_addPair_30 : decode cX0_addPair 30 = .ok (.aload_n 0, 1) := by decide +kernel
theorem dX0_addPair_31 : decode cX0_addPair 31 = .ok (.getfield 45, 3) := by decide +kernel
theorem dX0_addPair_34 : decode cX0_addPair 34 = .ok (.aload_n 0, 1) := by decide +kernel
theorem dX0_addPair_35 : decode cX0_addPair 35 = .ok (.getfield 41, 3) := by decide +kernel
theorem dX0_addPair_38 : decode cX0_addPair 38 = .ok (.iload_n 1, 1) := by decide +kernel
theorem dX0_addPair_39 : decode cX0_addPair 39 = .ok (.iload_n 2, 1) := by decide +kernel
theorem dX0_addPair_40 : decode cX0_addPair 40 = .ok (.invokevirtual 85, 3) := by decide +kernel
theorem dX0_addPair_43 : decode cX0_addPair 43 = .ok (.aload_n 0, 1) := by decide +kernel
theorem dX0_addPair_44 : decode cX0_addPair 44 = .ok (.getfield 49, 3) := by decide +kernel
theorem dX0_addPair_47 : decode cX0_addPair 47 = .ok (.aload_n 0, 1) := by decide +kernel
theorem dX0_addPair_48 : decode cX0_addPair 48 = .ok (.getfield 41, 3) := by decide +kernel
theorem dX0_addPair_51 : decode cX0_addPair 51 = .ok (.iconst 0, 1) := by decide +kernel
theorem dX0_addPair_52 : decode cX0_addPair 52 = .ok (.invokevirtual 91, 3) := by decide +kernel
theorem dX0_addPair_55 : decode cX0_addPair 55 = .ok (.aload_n 0, 1) := by decide +kernel
theorem dX0_addPair_56 : decode cX0_addPair 56 = .ok (.getfield 41, 3) := by decide +kernel
theorem dX0_addPair_59 : decode cX0_addPair 59 = .ok (.invokevirtual 95, 3) := by decide +kernel
theorem dX0_addPair_62 : decode cX0_addPair 62 = .ok (.invokevirtual 98, 3) := by decide +kernel
theorem dX0_addPair_65 : decode cX0_addPair 65 = .ok (.iconst 0, 1) := by decide +kernel
theorem dX0_addPair_66 : decode cX0_addPair 66 = .ok (.istore_n 3, 1) := by decide +kernel
theorem dX0_addPair_67 : decode cX0_addPair 67 = .ok (.iload_n 3, 1) := by decide +kernel
theorem dX0_addPair_68 : decode cX0_addPair 68 = .ok (.aload_n 0, 1) := by decide +kernel
theorem dX0_addPair_69 : decode cX0_addPair 69 = .ok (.getfield 49, 3) := by decide +kernel
theorem dX0_addPair_72 : decode cX0_addPair 72 = .ok (.invokevirtual 103, 3) := by decide +kernel
theorem dX0_addPair_75 : decode cX0_addPair 75 = .ok (.if_icmp .ge 104, 3) := by decide +kernel
theorem dX0_addPair_78 : decode cX0_addPair 78 = .ok (.aload_n 0, 1) := by decide +kernel
theorem dX0_addPair_79 : decode cX0_addPair 79 = .ok (.getfield 49, 3) := by decide +kernel
theorem dX0_addPair_82 : decode cX0_addPair 82 = .ok (.iload_n 3, 1) := by decide +kernel
theorem dX0_addPair_83 : decode cX0_addPair 83 = .ok (.invokevirtual 106, 3) := by decide +kernel
theorem dX0_addPair_86 : decode cX0_addPair 86 = .ok (.istore 4, 2) := by decide +kernel
theorem dX0_addPair_88 : decode cX0_addPair 88 = .ok (.aload_n 0, 1) := by decide +kernel
theorem dX0_addPair_89 : decode cX0_addPair 89 = .ok (.getfield 24, 3) := by decide +kernel
theorem dX0_addPair_92 : decode cX0_addPair 92 = .ok (.aload_n 0, 1) := by decide +kernel
theorem dX0_addPair_93 : decode cX0_addPair 93 = .ok (.getfield 82, 3) := by decide +kernel
theorem dX0_addPair_96 : decode cX0_addPair 96 = .ok (.aaload, 1) := by decide +kernel
theorem dX0_addPair_97 : decode cX0_addPair 97 = .ok (.iload 4, 2) := by decide +kernel
theorem dX0_addPair_99 : decode cX0_addPair 99 = .ok (.iconst 1, 1) := by decide +kernel
theorem dX0_addPair_100 : decode cX0_addPair 100 = .ok (.iastore, 1) := by decide +kernel
theorem dX0_addPair_101 : decode cX0_addPair 101 = .ok (.aload_n 0, 1) := by decide +kernel
theorem dX0_addPair_102 : decode cX0_addPair 102 = .ok (.getfield 29, 3) := by decide +kernel
theorem dX0_addPair_105 : decode cX0_addPair 105 = .ok (.aload_n 0, 1) := by decide +kernel
theorem dX0_addPair_106 : decode cX0_addPair 106 = .ok (.getfield 82, 3) := by decide +kernel
theorem dX0_addPair_109 : decode cX0_addPair 109 = .ok (.aaload, 1) := by decide +kernel
theorem dX0_addPair_110 : decode cX0_addPair 110 = .ok (.iload 4, 2) := by decide +kernel
theorem dX0_addPair_112 : decode cX0_addPair 112 = .ok (.aload_n 0, 1) := by decide +kernel
theorem dX0_addPair_113 : decode cX0_addPair 113 = .ok (.getfield 49, 3) := by decide +kernel
theorem dX0_addPair_116 : decode cX0_addPair 116 = .ok (.iload_n 3, 1) := by decide +kernel
theorem dX0_addPair_117 : decode cX0_addPair 117 = .ok (.invokevirtual 109, 3) := by decide +kernel
theorem dX0_addPair_120 : decode cX0_addPair 120 = .ok (.lastore, 1) := by decide +kernel
theorem dX0_addPair_121 : decode cX0_addPair 121 = .ok (.aload_n 0, 1) := by decide +kernel
theorem dX0_addPair_122 : decode cX0_addPair 122 = .ok (.getfield 32, 3) := by decide +kernel
theorem dX0_addPair_125 : decode cX0_addPair 125 = .ok (.iload_n 1, 1) := by decide +kernel
theorem dX0_addPair_126 : decode cX0_addPair 126 = .ok (.aaload, 1) := by decide +kernel
theorem dX0_addPair_127 : decode cX0_addPair 127 = .ok (.iload 4, 2) := by decide +kernel
theorem dX0_addPair_129 : decode cX0_addPair 129 = .ok (.dup2, 1) := by decide +kernel
theorem dX0_addPair_130 : decode cX0_addPair 130 = .ok (.iaload, 1) := by decide +kernel
theorem dX0_addPair_131 : decode cX0_addPair 131 = .ok (.iconst 1, 1) := by decide +kernel
theorem dX0_addPair_132 : decode cX0_addPair 132 = .ok (.iadd, 1) := by decide +kernel
theorem dX0_addPair_133 : decode cX0_addPair 133 = .ok (.iastore, 1) := by decide +kernel
theorem dX0_addPair_134 : decode cX0_addPair 134 = .ok (.aload_n 0, 1) := by decide +kernel
theorem dX0_addPair_135 : decode cX0_addPair 135 = .ok (.getfield 32, 3) := by decide +kernel
theorem dX0_addPair_138 : decode cX0_addPair 138 = .ok (.iload_n 2, 1) := by decide +kernel
theorem dX0_addPair_139 : decode cX0_addPair 139 = .ok (.aaload, 1) := by decide +kernel
theorem dX0_addPair_140 : decode cX0_addPair 140 = .ok (.iload 4, 2) := by decide +kernel
theorem dX0_addPair_142 : decode cX0_addPair 142 = .ok (.dup2, 1) := by decide +kernel
theorem dX0_addPair_143 : decode cX0_addPair 143 = .ok (.iaload, 1) := by decide +kernel
theorem dX0_addPair_144 : decode cX0_addPair 144 = .ok (.iconst 1, 1) := by decide +kernel
theorem dX0_addPair_145 : decode cX0_addPair 145 = .ok (.iadd, 1) := by decide +kernel
theorem dX0_addPair_146 : decode cX0_addPair 146 = .ok (.iastore, 1) := by decide +kernel
theorem dX0_addPair_147 : decode cX0_addPair 147 = .ok (.aload_n 0, 1) := by decide +kernel
theorem dX0_addPair_148 : decode cX0_addPair 148 = .ok (.getfield 35, 3) := by decide +kernel
theorem dX0_addPair_151 : decode cX0_addPair 151 = .ok (.iload_n 1, 1) := by decide +kernel
theorem dX0_addPair_152 : decode cX0_addPair 152 = .ok (.aaload, 1) := by decide +kernel
theorem dX0_addPair_153 : decode cX0_addPair 153 = .ok (.iload 4, 2) := by decide +kernel
theorem dX0_addPair_155 : decode cX0_addPair 155 = .ok (.dup2, 1) := by decide +kernel
theorem dX0_addPair_156 : decode cX0_addPair 156 = .ok (.iaload, 1) := by decide +kernel
theorem dX0_addPair_157 : decode cX0_addPair 157 = .ok (.iconst 1, 1) := by decide +kernel
theorem dX0_addPair_158 : decode cX0_addPair 158 = .ok (.iadd, 1) := by decide +kernel
theorem dX0_addPair_159 : decode cX0_addPair 159 = .ok (.iastore, 1) := by decide +kernel
theorem dX0_addPair_160 : decode cX0_addPair 160 = .ok (.aload_n 0, 1) := by decide +kernel
theorem dX0_addPair_161 : decode cX0_addPair 161 = .ok (.getfield 35, 3) := by decide +kernel
theorem dX0_addPair_164 : decode cX0_addPair 164 = .ok (.iload_n 2, 1) := by decide +kernel
theorem dX0_addPair_165 : decode cX0_addPair 165 = .ok (.aaload, 1) := by decide +kernel
theorem dX0_addPair_166 : decode cX0_addPair 166 = .ok (.iload 4, 2) := by decide +kernel
theorem dX0_addPair_168 : decode cX0_addPair 168 = .ok (.dup2, 1) := by decide +kernel
theorem dX0_addPair_169 : decode cX0_addPair 169 = .ok (.iaload, 1) := by decide +kernel
theorem dX0_addPair_170 : decode cX0_addPair 170 = .ok (.iconst 1, 1) := by decide +kernel
theorem dX0_addPair_171 : decode cX0_addPair 171 = .ok (.iadd, 1) := by decide +kernel
theorem dX0_addPair_172 : decode cX0_addPair 172 = .ok (.iastore, 1) := by decide +kernel
theorem dX0_addPair_173 : decode cX0_addPair 173 = .ok (.iinc 3 1, 3) := by decide +kernel
theorem dX0_addPair_176 : decode cX0_addPair 176 = .ok (.goto (-109), 3) := by decide +kernel
theorem dX0_addPair_179 : decode cX0_addPair 179 = .ok (.aload_n 0, 1) := by decide +kernel
theorem dX0_addPair_180 : decode cX0_addPair 180 = .ok (.dup, 1) := by decide +kernel
theorem dX0_addPair_181 : decode cX0_addPair 181 = .ok (.getfield 82, 3) := by decide +kernel
theorem dX0_addPair_184 : decode cX0_addPair 184 = .ok (.iconst 1, 1) := by decide +kernel
theorem dX0_addPair_185 : decode cX0_addPair 185 = .ok (.iadd, 1) := by decide +kernel
theorem dX0_addPair_186 : decode cX0_addPair 186 = .ok (.putfield 82, 3) := by decide +kernel
theorem dX0_addPair_189 : decode cX0_addPair 189 = .ok (.return_, 1) := by decide +kernel
theorem dX0_findCulprit_0 : decode cX0_findCulprit 0 = .ok (.aload_n 0, 1) := by decide +kernel
theorem dX0_findCulprit_1 : decode cX0_findCulprit 1 = .ok (.getfield 41, 3) := by decide +kernel
theorem dX0_findCulprit_4 : decode cX0_findCulprit 4 = .ok (.iconst 2, 1) := by decide +kernel
theorem dX0_findCulprit_5 : decode cX0_findCulprit 5 = .ok (.invokevirtual 91, 3) := by decide +kernel
theorem dX0_findCulprit_8 : decode cX0_findCulprit 8 = .ok (.iconst 1, 1) := by decide +kernel
theorem dX0_findCulprit_9 : decode cX0_findCulprit 9 = .ok (.isub, 1) := by decide +kernel
theorem dX0_findCulprit_10 : decode cX0_findCulprit 10 = .ok (.istore_n 1, 1) := by decide +kernel
theorem dX0_findCulprit_11 : decode cX0_findCulprit 11 = .ok (.iconst 0, 1) := by decide +kernel
theorem dX0_findCulprit_12 : decode cX0_findCulprit 12 = .ok (.istore_n 2, 1) := by decide +kernel
theorem dX0_findCulprit_13 : decode cX0_findCulprit 13 = .ok (.iconst 0, 1) := by decide +kernel
theorem dX0_findCulprit_14 : decode cX0_findCulprit 14 = .ok (.istore_n 3, 1) := by decide +kernel
theorem dX0_findCulprit_15 : decode cX0_findCulprit 15 = .ok (.iload_n 3, 1) := by decide +kernel
theorem dX0_findCulprit_16 : decode cX0_findCulprit 16 = .ok (.aload_n 0, 1) := by decide +kernel
theorem dX0_findCulprit_17 : decode cX0_findCulprit 17 = .ok (.getfield 41, 3) := by decide +kernel
theorem dX0_findCulprit_20 : decode cX0_findCulprit 20 = .ok (.invokevirtual 61, 3) := by decide +kernel
theorem dX0_findCulprit_23 : decode cX0_findCulprit 23 = .ok (.if_icmp .ge 80, 3) := by decide +kernel
theorem dX0_findCulprit_26 : decode cX0_findCulprit 26 = .ok (.iconst 0, 1) := by decide +kernel
theorem dX0_findCulprit_27 : decode cX0_findCulprit 27 = .ok (.istore 4, 2) := by decide +kernel
theorem dX0_findCulprit_29 : decode cX0_findCulprit 29 = .ok (.iload 4, 2) := by decide +kernel
theorem dX0_findCulprit_31 : decode cX0_findCulprit 31 = .ok (.aload_n 0, 1) := by decide +kernel
theorem dX0_findCulprit_32 : decode cX0_findCulprit 32 = .ok (.getfield 41, 3) := by decide +kernel
theorem dX0_findCulprit_35 : decode cX0_findCulprit 35 = .ok (.invokevirtual 113, 3) := by decide +kernel
theorem dX0_findCulprit_38 : decode cX0_findCulprit 38 = .ok (.if_icmp .ge 59, 3) := by decide +kernel
theorem dX0_findCulprit_41 : decode cX0_findCulprit 41 = .ok (.aload_n 0, 1) := by decide +kernel
theorem dX0_findCulprit_42 : decode cX0_findCulprit 42 = .ok (.getfield 35, 3) := by decide +kernel
theorem dX0_findCulprit_45 : decode cX0_findCulprit 45 = .ok (.iload_n 3, 1) := by decide +kernel
theorem dX0_findCulprit_46 : decode cX0_findCulprit 46 = .ok (.aaload, 1) := by decide +kernel
theorem dX0_findCulprit_47 : decode cX0_findCulprit 47 = .ok (.iload 4, 2) := by decide +kernel
theorem dX0_findCulprit_49 : decode cX0_findCulprit 49 = .ok (.iaload, 1) := by decide +kernel
theorem dX0_findCulprit_50 : decode cX0_findCulprit 50 = .ok (.iload_n 1, 1) := by decide +kernel
theorem dX0_findCulprit_51 : decode cX0_findCulprit 51 = .ok (.if_icmp .le 40, 3) := by decide +kernel
theorem dX0_findCulprit_54 : decode cX0_findCulprit 54 = .ok (.aload_n 0, 1) := by decide +kernel
theorem dX0_findCulprit_55 : decode cX0_findCulprit 55 = .ok (.getfield 35, 3) := by decide +kernel
theorem dX0_findCulprit_58 : decode cX0_findCulprit 58 = .ok (.iload_n 3, 1) := by decide +kernel
theorem dX0_findCulprit_59 : decode cX0_findCulprit 59 = .ok (.aaload, 1) := by decide +kernel
theorem dX0_findCulprit_60 : decode cX0_findCulprit 60 = .ok (.iload 4, 2) := by decide +kernel
theorem dX0_findCulprit_62 : decode cX0_findCulprit 62 = .ok (.iaload, 1) := by decide +kernel
theorem dX0_findCulprit_63 : decode cX0_findCulprit 63 = .ok (.istore_n 1, 1) := by decide +kernel
theorem dX0_findCulprit_64 : decode cX0_findCulprit 64 = .ok (.iconst 1, 1) := by decide +kernel
theorem dX0_findCulprit_65 : decode cX0_findCulprit 65 = .ok (.istore_n 2, 1) := by decide +kernel
theorem dX0_findCulprit_66 : decode cX0_findCulprit 66 = .ok (.aload_n 0, 1) := by decide +kernel
theorem dX0_findCulprit_67 : decode cX0_findCulprit 67 = .ok (.getfield 38, 3) := by decide +kernel
theorem dX0_findCulprit_70 : decode cX0_findCulprit 70 = .ok (.iconst 0, 1) := by decide +kernel
theorem dX0_findCulprit_71 : decode cX0_findCulprit 71 = .ok (.aaload, 1) := by decide +kernel
theorem dX0_findCulprit_72 : decode cX0_findCulprit 72 = .ok (.aload_n 0, 1) := by decide +kernel
theorem dX0_findCulprit_73 : decode cX0_findCulprit 73 = .ok (.getfield 72, 3) := by decide +kernel
theorem dX0_findCulprit_76 : decode cX0_findCulprit 76 = .ok (.iload_n 3, 1) := by decide +kernel
theorem dX0_findCulprit_77 : decode cX0_findCulprit 77 = .ok (.iastore, 1) := by decide +kernel
theorem dX0_findCulprit_78 : decode cX0_findCulprit 78 = .ok (.aload_n 0, 1) := by decide +kernel
theorem dX0_findCulprit_79 : decode cX0_findCulprit 79 = .ok (.getfield 38, 3) := by decide +kernel
theorem dX0_findCulprit_82 : decode cX0_findCulprit 82 = .ok (.iconst 1, 1) := by decide +kernel
theorem dX0_findCulprit_83 : decode cX0_findCulprit 83 = .ok (.aaload, 1) := by decide +kernel
theorem dX0_findCulprit_84 : decode cX0_findCulprit 84 = .ok (.aload_n 0, 1) := by decide +kernel
theorem dX0_findCulprit_85 : decode cX0_findCulprit 85 = .ok (.getfield 72, 3) := by decide +kernel
theorem dX0_findCulprit_88 : decode cX0_findCulprit 88 = .ok (.iload 4, 2) := by decide +kernel
theorem dX0_findCulprit_90 : decode cX0_findCulprit 90 = .ok (.iastore, 1) := by decide +kernel
theorem dX0_findCulprit_91 : decode cX0_findCulprit 91 = .ok (.iinc 4 1, 3) := by decide +kernel
theorem dX0_findCulprit_94 : decode cX0_findCulprit 94 = .ok (.goto (-65), 3) := by decide +kernel
theorem dX0_findCulprit_97 : decode cX0_findCulprit 97 = .ok (.iinc 3 1, 3) := by decide +kernel
theorem dX0_findCulprit_100 : decode cX0_findCulprit 100 = .ok (.goto (-85), 3) := by decide +kernel
theorem dX0_findCulprit_103 : decode cX0_findCulprit 103 = .ok (.iload_n 2, 1) := by decide +kernel
theorem dX0_findCulprit_104 : decode cX0_findCulprit 104 = .ok (.ifCond .eq 52, 3) := by decide +kernel
theorem dX0_findCulprit_107 : decode cX0_findCulprit 107 = .ok (.aload_n 0, 1) := by decide +kernel
theorem dX0_findCulprit_108 : decode cX0_findCulprit 108 = .ok (.getfield 38, 3) := by decide +kernel
theorem dX0_findCulprit_111 : decode cX0_findCulprit 111 = .ok (.iconst 2, 1) := by decide +kernel
theorem dX0_findCulprit_112 : decode cX0_findCulprit 112 = .ok (.aaload, 1) := by decide +kernel
theorem dX0_findCulprit_113 : decode cX0_findCulprit 113 = .ok (.aload_n 0, 1) := by decide +kernel
theorem dX0_findCulprit_114 : decode cX0_findCulprit 114 = .ok (.getfield 72, 3) := by decide +kernel
theorem dX0_findCulprit_117 : decode cX0_findCulprit 117 = .ok (.iload_n 1, 1) := by decide +kernel
theorem dX0_findCulprit_118 : decode cX0_findCulprit 118 = .ok (.iastore, 1) := by decide +kernel
theorem dX0_findCulprit_119 : decode cX0_findCulprit 119 = .ok (.aload_n 0, 1) := by decide +kernel
theorem dX0_findCulprit_120 : decode cX0_findCulprit 120 = .ok (.getfield 38, 3) := by decide +kernel
theorem dX0_findCulprit_123 : decode cX0_findCulprit 123 = .ok (.iconst 3, 1) := by decide +kernel
theorem dX0_findCulprit_124 : decode cX0_findCulprit 124 = .ok (.aaload, 1) := by decide +kernel
theorem dX0_findCulprit_125 : decode cX0_findCulprit 125 = .ok (.aload_n 0, 1) := by decide +kernel
theorem dX0_findCulprit_126 : decode cX0_findCulprit 126 = .ok (.getfield 72, 3) := by decide +kernel
theorem dX0_findCulprit_129 : decode cX0_findCulprit 129 = .ok (.aload_n 0, 1) := by decide +kernel
theorem dX0_findCulprit_130 : decode cX0_findCulprit 130 = .ok (.aload_n 0, 1) := by decide +kernel
theorem dX0_findCulprit_131 : decode cX0_findCulprit 131 = .ok (.getfield 38, 3) := by decide +kernel
theorem dX0_findCulprit_134 : decode cX0_findCulprit 134 = .ok (.iconst 0, 1) := by decide +kernel
theorem dX0_findCulprit_135 : decode cX0_findCulprit 135 = .ok (.aaload, 1) := by decide +kernel
theorem dX0_findCulprit_136 : decode cX0_findCulprit 136 = .ok (.aload_n 0, 1) := by decide +kernel
theorem dX0_findCulprit_137 : decode cX0_findCulprit 137 = .ok (.getfield 72, 3) := by decide +kernel
theorem dX0_findCulprit_140 : decode cX0_findCulprit 140 = .ok (.iaload, 1) := by decide +kernel
theorem dX0_findCulprit_141 : decode cX0_findCulprit 141 = .ok (.aload_n 0, 1) := by decide +kernel
theorem dX0_findCulprit_142 : decode cX0_findCulprit 142 = .ok (.getfield 38, 3) := by decide +kernel
theorem dX0_findCulprit_145 : decode cX0_findCulprit 145 = .ok (.iconst 1, 1) := by decide +kernel
theorem dX0_findCulprit_146 : decode cX0_findCulprit 146 = .ok (.aaload, 1) := by decide +kernel
theorem dX0_findCulprit_147 : decode cX0_findCulprit 147 = .ok (.aload_n 0, 1) := by decide +kernel
theorem dX0_findCulprit_148 : decode cX0_findCulprit 148 = .ok (.getfield 72, 3) := by decide +kernel
theorem dX0_findCulprit_151 : decode cX0_findCulprit 151 = .ok (.iaload, 1) := by decide +kernel
theorem dX0_findCulprit_152 : decode cX0_findCulprit 152 = .ok (.invokevirtual 116, 3) := by decide +kernel
theorem dX0_findCulprit_155 : decode cX0_findCulprit 155 = .ok (.iastore, 1) := by decide +kernel
theorem dX0_findCulprit_156 : decode cX0_findCulprit 156 = .ok (.iload_n 2, 1) := by decide +kernel
theorem dX0_findCulprit_157 : decode cX0_findCulprit 157 = .ok (.ireturn, 1) := by decide +kernel
theorem dX0_size_0 : decode cX0_size 0 = .ok (.lconst 0, 1) := by decide +kernel
theorem dX0_size_1 : decode cX0_size 1 = .ok (.lstore_n 3, 1) := by decide +kernel
theorem dX0_size_2 : decode cX0_size 2 = .ok (.iconst 0, 1) := by decide +kernel
theorem dX0_size_3 : decode cX0_size 3 = .ok (.istore 5, 2) := by decide +kernel
theorem dX0_size_5 : decode cX0_size 5 = .ok (.iconst 0, 1) := by decide +kernel
theorem dX0_size_6 : decode cX0_size 6 = .ok (.istore 6, 2) := by decide +kernel
theorem dX0_size_8 : decode cX0_size 8 = .ok (.iload 6, 2) := by decide +kernel
theorem dX0_size_10 : decode cX0_size 10 = .ok (.aload_n 0, 1) := by decide +kernel
theorem dX0_size_11 : decode cX0_size 11 = .ok (.getfield 82, 3) := by decide +kernel
theorem dX0_size_14 : decode cX0_size 14 = .ok (.if_icmp .ge 71, 3) := by decide +kernel
theorem dX0_size_17 : decode cX0_size 17 = .ok (.aload_n 0, 1) := by decide +kernel
theorem dX0_size_18 : decode cX0_size 18 = .ok (.iload 6, 2) := by decide +kernel
theorem dX0_size_20 : decode cX0_size 20 = .ok (.iload_n 1, 1) := by decide +kernel
theorem dX0_size_21 : decode cX0_size 21 = .ok (.invokevirtual 120, 3) := by decide +kernel
theorem dX0_size_24 : decode cX0_size 24 = .ok (.ifCond .eq 55, 3) := by decide +kernel
theorem dX0_size_27 : decode cX0_size 27 = .ok (.aload_n 0, 1) := by decide +kernel
theorem dX0_size_28 : decode cX0_size 28 = .ok (.getfield 24, 3) := by decide +kernel
theorem dX0_size_31 : decode cX0_size 31 = .ok (.iload 6, 2) := by decide +kernel
theorem dX0_size_33 : decode cX0_size 33 = .ok (.aaload, 1) := by decide +kernel
theorem dX0_size_34 : decode cX0_size 34 = .ok (.iload_n 2, 1) := by decide +kernel
theorem dX0_size_35 : decode cX0_size 35 = .ok (.iaload, 1) := by decide +kernel
theorem dX0_size_36 : decode cX0_size 36 = .ok (.iconst 1, 1) := by decide +kernel
theorem dX0_size_37 : decode cX0_size 37 = .ok (.if_icmp .ne 42, 3) := by decide +kernel
theorem dX0_size_40 : decode cX0_size 40 = .ok (.lload_n 3, 1) := by decide +kernel
theorem dX0_size_41 : decode cX0_size 41 = .ok (.aload_n 0, 1) := by decide +kernel
theorem dX0_size_42 : decode cX0_size 42 = .ok (.getfield 15, 3) := by decide +kernel
theorem dX0_size_45 : decode cX0_size 45 = .ok (.iload 6, 2) := by decide +kernel
theorem dX0_size_47 : decode cX0_size 47 = .ok (.iaload, 1) := by decide +kernel
theorem dX0_size_48 : decode cX0_size 48 = .ok (.iload_n 1, 1) := by decide +kernel
theorem dX0_size_49 : decode cX0_size 49 = .ok (.if_icmp .ne 15, 3) := by decide +kernel
theorem dX0_size_52 : decode cX0_size 52 = .ok (.aload_n 0, 1) := by decide +kernel
theorem dX0_size_53 : decode cX0_size 53 = .ok (.getfield 29, 3) := by decide +kernel
theorem dX0_size_56 : decode cX0_size 56 = .ok (.iload 6, 2) := by decide +kernel
theorem dX0_size_58 : decode cX0_size 58 = .ok (.aaload, 1) := by decide +kernel
theorem dX0_size_59 : decode cX0_size 59 = .ok (.iload_n 2, 1) := by decide +kernel
theorem dX0_size_60 : decode cX0_size 60 = .ok (.laload, 1) := by decide +kernel
theorem dX0_size_61 : decode cX0_size 61 = .ok (.goto 13, 3) := by decide +kernel
theorem dX0_size_64 : decode cX0_size 64 = .ok (.aload_n 0, 1) := by decide +kernel
theorem dX0_size_65 : decode cX0_size 65 = .ok (.getfield 29, 3) := by decide +kernel
theorem dX0_size_68 : decode cX0_size 68 = .ok (.iload 6, 2) := by decide +kernel
theorem dX0_size_70 : decode cX0_size 70 = .ok (.aaload, 1) := by decide +kernel
theorem dX0_size_71 : decode cX0_size 71 = .ok (.iload_n 2, 1) := by decide +kernel
theorem dX0_size_72 : decode cX0_size 72 = .ok (.laload, 1) := by decide +kernel
theorem dX0_size_73 : decode cX0_size 73 = .ok (.lneg, 1) := by decide +kernel
theorem dX0_size_74 : decode cX0_size 74 = .ok (.ladd, 1) := by decide +kernel
theorem dX0_size_75 : decode cX0_size 75 = .ok (.lstore_n 3, 1) := by decide +kernel
theorem dX0_size_76 : decode cX0_size 76 = .ok (.iinc 5 1, 3) := by decide +kernel
theorem dX0_size_79 : decode cX0_size 79 = .ok (.iinc 6 1, 3) := by decide +kernel
theorem dX0_size_82 : decode cX0_size 82 = .ok (.goto (-74), 3) := by decide +kernel
theorem dX0_size_85 : decode cX0_size 85 = .ok (.lload_n 3, 1) := by decide +kernel
theorem dX0_size_86 : decode cX0_size 86 = .ok (.iload 5, 2) := by decide +kernel
theorem dX0_size_88 : decode cX0_size 88 = .ok (.invokestatic 123, 3) := by decide +kernel
theorem dX0_size_91 : decode cX0_size 91 = .ok (.ireturn, 1) := by decide +kernel
theorem dX0_isOf_0 : decode cX0_isOf 0 = .ok (.aload_n 0, 1) := by decide +kernel
theorem dX0_isOf_1 : decode cX0_isOf 1 = .ok (.getfield 15, 3) := by decide +kernel
theorem dX0_isOf_4 : decode cX0_isOf 4 = .ok (.iload_n 1, 1) := by decide +kernel
theorem dX0_isOf_5 : decode cX0_isOf 5 = .ok (.iaload, 1) := by decide +kernel
theorem dX0_isOf_6 : decode cX0_isOf 6 = .ok (.iload_n 2, 1) := by decide +kernel
theorem dX0_isOf_7 : decode cX0_isOf 7 = .ok (.if_icmp .eq 13, 3) := by decide +kernel
theorem dX0_isOf_10 : decode cX0_isOf 10 = .ok (.aload_n 0, 1) := by decide +kernel
theorem dX0_isOf_11 : decode cX0_isOf 11 = .ok (.getfield 19, 3) := by decide +kernel
theorem dX0_isOf_14 : decode cX0_isOf 14 = .ok (.iload_n 1, 1) := by decide +kernel
theorem dX0_isOf_15 : decode cX0_isOf 15 = .ok (.iaload, 1) := by decide +kernel
theorem dX0_isOf_16 : decode cX0_isOf 16 = .ok (.iload_n 2, 1) := by decide +kernel
theorem dX0_isOf_17 : decode cX0_isOf 17 = .ok (.if_icmp .ne 7, 3) := by decide +kernel
theorem dX0_isOf_20 : decode cX0_isOf 20 = .ok (.iconst 1, 1) := by decide +kernel
theorem dX0_isOf_21 : decode cX0_isOf 21 = .ok (.goto 4, 3) := by decide +kernel
theorem dX0_isOf_24 : decode cX0_isOf 24 = .ok (.iconst 0, 1) := by decide +kernel
theorem dX0_isOf_25 : decode cX0_isOf 25 = .ok (.ireturn, 1) := by decide +kernel
theorem dX0_strikeVotes_0 : decode cX0_strikeVotes 0 = .ok (.aload_n 0, 1) := by decide +kernel
theorem dX0_strikeVotes_1 : decode cX0_strikeVotes 1 = .ok (.getfield 41, 3) := by decide +kernel
theorem dX0_strikeVotes_4 : decode cX0_strikeVotes 4 = .ok (.iconst 3, 1) := by decide +kernel
theorem dX0_strikeVotes_5 : decode cX0_strikeVotes 5 = .ok (.invokevirtual 91, 3) := by decide +kernel
theorem dX0_strikeVotes_8 : decode cX0_strikeVotes 8 = .ok (.istore_n 3, 1) := by decide +kernel
theorem dX0_strikeVotes_9 : decode cX0_strikeVotes 9 = .ok (.iconst 0, 1) := by decide +kernel
theorem dX0_strikeVotes_10 : decode cX0_strikeVotes 10 = .ok (.iload_n 2, 1) := by decide +kernel
theorem dX0_strikeVotes_11 : decode cX0_strikeVotes 11 = .ok (.iload_n 3, 1) := by decide +kernel
theorem dX0_strikeVotes_12 : decode cX0_strikeVotes 12 = .ok (.isub, 1) := by decide +kernel
theorem dX0_strikeVotes_13 : decode cX0_strikeVotes 13 = .ok (.invokestatic 127, 3) := by decide +kernel
theorem dX0_strikeVotes_16 : decode cX0_strikeVotes 16 = .ok (.istore 4, 2) := by decide +kernel
theorem dX0_strikeVotes_18 : decode cX0_strikeVotes 18 = .ok (.aload_n 0, 1) := by decide +kernel
theorem dX0_strikeVotes_19 : decode cX0_strikeVotes 19 = .ok (.getfield 41, 3) := by decide +kernel
theorem dX0_strikeVotes_22 : decode cX0_strikeVotes 22 = .ok (.invokevirtual 113, 3) := by decide +kernel
theorem dX0_strikeVotes_25 : decode cX0_strikeVotes 25 = .ok (.iconst 1, 1) := by decide +kernel
theorem dX0_strikeVotes_26 : decode cX0_strikeVotes 26 = .ok (.isub, 1) := by decide +kernel
theorem dX0_strikeVotes_27 : decode cX0_strikeVotes 27 = .ok (.iload_n 2, 1) := by decide +kernel
theorem dX0_strikeVotes_28 : decode cX0_strikeVotes 28 = .ok (.iload_n 3, 1) := by decide +kernel
theorem dX0_strikeVotes_29 : decode cX0_strikeVotes 29 = .ok (.iadd, 1) := by decide +kernel
theorem dX0_strikeVotes_30 : decode cX0_strikeVotes 30 = .ok (.invokestatic 132, 3) := by decide +kernel
theorem dX0_strikeVotes_33 : decode cX0_strikeVotes 33 = .ok (.istore 5, 2) := by decide +kernel
theorem dX0_strikeVotes_35 : decode cX0_strikeVotes 35 = .ok (.iconst 0, 1) := by decide +kernel
theorem dX0_strikeVotes_36 : decode cX0_strikeVotes 36 = .ok (.istore 6, 2) := by decide +kernel
theorem dX0_strikeVotes_38 : decode cX0_strikeVotes 38 = .ok (.iload 6, 2) := by decide +kernel
theorem dX0_strikeVotes_40 : decode cX0_strikeVotes 40 = .ok (.aload_n 0, 1) := by decide +kernel
theorem dX0_strikeVotes_41 : decode cX0_strikeVotes 41 = .ok (.getfield 82, 3) := by decide +kernel
theorem dX0_strikeVotes_44 : decode cX0_strikeVotes 44 = .ok (.if_icmp .ge 99, 3) := by decide +kernel
theorem dX0_strikeVotes_47 : decode cX0_strikeVotes 47 = .ok (.iload 4, 2) := by decide +kernel
theorem dX0_strikeVotes_49 : decode cX0_strikeVotes 49 = .ok (.istore 7, 2) := by decide +kernel
theorem dX0_strikeVotes_51 : decode cX0_strikeVotes 51 = .ok (.iload 7, 2) := by decide +kernel
theorem dX0_strikeVotes_53 : decode cX0_strikeVotes 53 = .ok (.iload 5, 2) := by decide +kernel
theorem dX0_strikeVotes_55 : decode cX0_strikeVotes 55 = .ok (.if_icmp .gt 82, 3) := by decide +kernel
theorem dX0_strikeVotes_58 : decode cX0_strikeVotes 58 = .ok (.aload_n 0, 1) := by decide +kernel
theorem dX0_strikeVotes_59 : decode cX0_strikeVotes 59 = .ok (.iload 6, 2) := by decide +kernel
theorem dX0_strikeVotes_61 : decode cX0_strikeVotes 61 = .ok (.iload_n 1, 1) := by decide +kernel
theorem dX0_strikeVotes_62 : decode cX0_strikeVotes 62 = .ok (.invokevirtual 120, 3) := by decide +kernel
theorem dX0_strikeVotes_65 : decode cX0_strikeVotes 65 = .ok (.ifCond .eq 66, 3) := by decide +kernel
theorem dX0_strikeVotes_68 : decode cX0_strikeVotes 68 = .ok (.aload_n 0, 1) := by decide +kernel
theorem dX0_strikeVotes_69 : decode cX0_strikeVotes 69 = .ok (.getfield 24, 3) := by decide +kernel
theorem dX0_strikeVotes_72 : decode cX0_strikeVotes 72 = .ok (.iload 6, 2) := by decide +kernel
theorem dX0_strikeVotes_74 : decode cX0_strikeVotes 74 = .ok (.aaload, 1) := by decide +kernel
theorem dX0_strikeVotes_75 : decode cX0_strikeVotes 75 = .ok (.iload 7, 2) := by decide +kernel
theorem dX0_strikeVotes_77 : decode cX0_strikeVotes 77 = .ok (.iaload, 1) := by decide +kernel
theorem dX0_strikeVotes_78 : decode cX0_strikeVotes 78 = .ok (.iconst 1, 1) := by decide +kernel
theorem dX0_strikeVotes_79 : decode cX0_strikeVotes 79 = .ok (.if_icmp .ne 52, 3) := by decide +kernel
theorem dX0_strikeVotes_82 : decode cX0_strikeVotes 82 = .ok (.aload_n 0, 1) := by decide +kernel
theorem dX0_strikeVotes_83 : decode cX0_strikeVotes 83 = .ok (.getfield 24, 3) := by decide +kernel
theorem dX0_strikeVotes_86 : decode cX0_strikeVotes 86 = .ok (.iload 6, 2) := by decide +kernel
theorem dX0_strikeVotes_88 : decode cX0_strikeVotes 88 = .ok (.aaload, 1) := by decide +kernel
theorem dX0_strikeVotes_89 : decode cX0_strikeVotes 89 = .ok (.iload 7, 2) := by decide +kernel
theorem dX0_strikeVotes_91 : decode cX0_strikeVotes 91 = .ok (.iconst 0, 1) := by decide +kernel
theorem dX0_strikeVotes_92 : decode cX0_strikeVotes 92 = .ok (.iastore, 1) := by decide +kernel
theorem dX0_strikeVotes_93 : decode cX0_strikeVotes 93 = .ok (.aload_n 0, 1) := by decide +kernel
theorem dX0_strikeVotes_94 : decode cX0_strikeVotes 94 = .ok (.getfield 35, 3) := by decide +kernel
theorem dX0_strikeVotes_97 : decode cX0_strikeVotes 97 = .ok (.aload_n 0, 1) := by decide +kernel
theorem dX0_strikeVotes_98 : decode cX0_strikeVotes 98 = .ok (.getfield 15, 3) := by decide +kernel
theorem dX0_strikeVotes_101 : decode cX0_strikeVotes 101 = .ok (.iload 6, 2) := by decide +kernel
theorem dX0_strikeVotes_103 : decode cX0_strikeVotes 103 = .ok (.iaload, 1) := by decide +kernel
theorem dX0_strikeVotes_104 : decode cX0_strikeVotes 104 = .ok (.aaload, 1) := by decide +kernel
theorem dX0_strikeVotes_105 : decode cX0_strikeVotes 105 = .ok (.iload 7, 2) := by decide +kernel
theorem dX0_strikeVotes_107 : decode cX0_strikeVotes 107 = .ok (.dup2, 1) := by decide +kernel
theorem dX0_strikeVotes_108 : decode cX0_strikeVotes 108 = .ok (.iaload, 1) := by decide +kernel
theorem dX0_strikeVotes_109 : decode cX0_strikeVotes 109 = .ok (.iconst 1, 1) := by decide +kernel
theorem dX0_strikeVotes_110 : decode cX0_strikeVotes 110 = .ok (.isub, 1) := by decide +kernel
theorem dX0_strikeVotes_111 : decode cX0_strikeVotes 111 = .ok (.iastore, 1) := by decide +kernel
theorem dX0_strikeVotes_112 : decode cX0_strikeVotes 112 = .ok (.aload_n 0, 1) := by decide +kernel
theorem dX0_strikeVotes_113 : decode cX0_strikeVotes 113 = .ok (.getfield 35, 3) := by decide +kernel
theorem dX0_strikeVotes_116 : decode cX0_strikeVotes 116 = .ok (.aload_n 0, 1) := by decide +kernel
theorem dX0_strikeVotes_117 : decode cX0_strikeVotes 117 = .ok (.getfield 19, 3) := by decide +kernel
theorem dX0_strikeVotes_120 : decode cX0_strikeVotes 120 = .ok (.iload 6, 2) := by decide +kernel
theorem dX0_strikeVotes_122 : decode cX0_strikeVotes 122 = .ok (.iaload, 1) := by decide +kernel
theorem dX0_strikeVotes_123 : decode cX0_strikeVotes 123 = .ok (.aaload, 1) := by decide +kernel
theorem dX0_strikeVotes_124 : decode cX0_strikeVotes 124 = .ok (.iload 7, 2) := by decide +kernel
theorem dX0_strikeVotes_126 : decode cX0_strikeVotes 126 = .ok (.dup2, 1) := by decide +kernel
theorem dX0_strikeVotes_127 : decode cX0_strikeVotes 127 = .ok (.iaload, 1) := by decide +kernel
theorem dX0_strikeVotes_128 : decode cX0_strikeVotes 128 = .ok (.iconst 1, 1) := by decide +kernel
theorem dX0_strikeVotes_129 : decode cX0_strikeVotes 129 = .ok (.isub, 1) := by decide +kernel
theorem dX0_strikeVotes_130 : decode cX0_strikeVotes 130 = .ok (.iastore, 1) := by decide +kernel
theorem dX0_strikeVotes_131 : decode cX0_strikeVotes 131 = .ok (.iinc 7 1, 3) := by decide +kernel
theorem dX0_strikeVotes_134 : decode cX0_strikeVotes 134 = .ok (.goto (-83), 3) := by decide +kernel
theorem dX0_strikeVotes_137 : decode cX0_strikeVotes 137 = .ok (.iinc 6 1, 3) := by decide +kernel
theorem dX0_strikeVotes_140 : decode cX0_strikeVotes 140 = .ok (.goto (-102), 3) := by decide +kernel
theorem dX0_strikeVotes_143 : decode cX0_strikeVotes 143 = .ok (.return_, 1) := by decide +kernel
theorem dX1_init_0 : decode cX1_init 0 = .ok (.aload_n 0, 1) := by decide +kernel
theorem dX1_init_1 : decode cX1_init 1 = .ok (.invokespecial 3, 3) := by decide +kernel
theorem dX1_init_4 : decode cX1_init 4 = .ok (.aload_n 0, 1) := by decide +kernel
theorem dX1_init_5 : decode cX1_init 5 = .ok (.iconst 4, 1) := by decide +kernel
theorem dX1_init_6 : decode cX1_init 6 = .ok (.bipush 8, 2) := by decide +kernel
theorem dX1_init_8 : decode cX1_init 8 = .ok (.multianewarray 9 2, 4) := by decide +kernel
theorem dX1_init_12 : decode cX1_init 12 = .ok (.putfield 11, 3) := by decide +kernel
theorem dX1_init_15 : decode cX1_init 15 = .ok (.return_, 1) := by decide +kernel
theorem dX1_clear_0 : decode cX1_clear 0 = .ok (.aload_n 0, 1) := by decide +kernel
theorem dX1_clear_1 : decode cX1_clear 1 = .ok (.iconst 0, 1) := by decide +kernel
theorem dX1_clear_2 : decode cX1_clear 2 = .ok (.putfield 16, 3) := by decide +kernel
theorem dX1_clear_5 : decode cX1_clear 5 = .ok (.return_, 1) := by decide +kernel
theorem dX1_length_0 : decode cX1_length 0 = .ok (.aload_n 0, 1) := by decide +kernel
theorem dX1_length_1 : decode cX1_length 1 = .ok (.getfield 16, 3) := by decide +kernel
theorem dX1_length_4 : decode cX1_length 4 = .ok (.ireturn, 1) := by decide +kernel
theorem dX1_add_0 : decode cX1_add 0 = .ok (.aload_n 0, 1) := by decide +kernel
theorem dX1_add_1 : decode cX1_add 1 = .ok (.aload_n 0, 1) := by decide +kernel
theorem dX1_add_2 : decode cX1_add 2 = .ok (.getfield 16, 3) := by decide +kernel
theorem dX1_add_5 : decode cX1_add 5 = .ok (.invokevirtual 20, 3) := by decide +kernel
theorem dX1_add_8 : decode cX1_add 8 = .ok (.istore 5, 2) := by decide +kernel
theorem dX1_add_10 : decode cX1_add 10 = .ok (.aload_n 0, 1) := by decide +kernel
theorem dX1_add_11 : decode cX1_add 11 = .ok (.getfield 11, 3) := by decide +kernel
theorem dX1_add_14 : decode cX1_add 14 = .ok (.iconst 0, 1) := by decide +kernel
theorem dX1_add_15 : decode cX1_add 15 = .ok (.aaload, 1) := by decide +kernel
theorem dX1_add_16 : decode cX1_add 16 = .ok (.iload 5, 2) := by decide +kernel
theorem dX1_add_18 : decode cX1_add 18 = .ok (.iload_n 1, 1) := by decide +kernel
theorem dX1_add_19 : decode cX1_add 19 = .ok (.iastore, 1) := by decide +kernel
theorem dX1_add_20 : decode cX1_add 20 = .ok (.aload_n 0, 1) := by decide +kernel
theorem dX1_add_21 : decode cX1_add 21 = .ok (.getfield 11, 3) := by decide +kernel
theorem dX1_add_24 : decode cX1_add 24 = .ok (.iconst 1, 1) := by decide +kernel
theorem dX1_add_25 : decode cX1_add 25 = .ok (.aaload, 1) := by decide +kernel
theorem dX1_add_26 : decode cX1_add 26 = .ok (.iload 5, 2) := by decide +kernel
theorem dX1_add_28 : decode cX1_add 28 = .ok (.iload_n 2, 1) := by decide +kernel
theorem dX1_add_29 : decode cX1_add 29 = .ok (.iastore, 1) := by decide +kernel
theorem dX1_add_30 : decode cX1_add 30 = .ok (.aload_n 0, 1) := by decide +kernel
theorem dX1_add_31 : decode cX1_add 31 = .ok (.getfield 11, 3) := by decide +kernel
theorem dX1_add_34 : decode cX1_add 34 = .ok (.iconst 2, 1) := by decide +kernel
theorem dX1_add_35 : decode cX1_add 35 = .ok (.aaload, 1) := by decide +kernel
theorem dX1_add_36 : decode cX1_add 36 = .ok (.iload 5, 2) := by decide +kernel
theorem dX1_add_38 : decode cX1_add 38 = .ok (.iload_n 3, 1) := by decide +kernel
theorem dX1_add_39 : decode cX1_add 39 = .ok (.iastore, 1) := by decide +kernel
theorem dX1_add_40 : decode cX1_add 40 = .ok (.aload_n 0, 1) := by decide +kernel
theorem dX1_add_41 : decode cX1_add 41 = .ok (.getfield 11, 3) := by decide +kernel
theorem dX1_add_44 : decode cX1_add 44 = .ok (.iconst 3, 1) := by decide +kernel
theorem dX1_add_45 : decode cX1_add 45 = .ok (.aaload, 1) := by decide +kernel
theorem dX1_add_46 : decode cX1_add 46 = .ok (.iload 5, 2) := by decide +kernel
theorem dX1_add_48 : decode cX1_add 48 = .ok (.iload 4, 2) := by decide +kernel
theorem dX1_add_50 : decode cX1_add 50 = .ok (.iastore, 1) := by decide +kernel
theorem dX1_add_51 : decode cX1_add 51 = .ok (.aload_n 0, 1) := by decide +kernel
theorem dX1_add_52 : decode cX1_add 52 = .ok (.getfield 16, 3) := by decide +kernel
theorem dX1_add_55 : decode cX1_add 55 = .ok (.bipush 8, 2) := by decide +kernel
theorem dX1_add_57 : decode cX1_add 57 = .ok (.if_icmp .ge 16, 3) := by decide +kernel
theorem dX1_add_60 : decode cX1_add 60 = .ok (.aload_n 0, 1) := by decide +kernel
theorem dX1_add_61 : decode cX1_add 61 = .ok (.dup, 1) := by decide +kernel
theorem dX1_add_62 : decode cX1_add 62 = .ok (.getfield 16, 3) := by decide +kernel
theorem dX1_add_65 : decode cX1_add 65 = .ok (.iconst 1, 1) := by decide +kernel
theorem dX1_add_66 : decode cX1_add 66 = .ok (.iadd, 1) := by decide +kernel
theorem dX1_add_67 : decode cX1_add 67 = .ok (.putfield 16, 3) := by decide +kernel
theorem dX1_add_70 : decode cX1_add 70 = .ok (.goto 12, 3) := by decide +kernel
theorem dX1_add_73 : decode cX1_add 73 = .ok (.aload_n 0, 1) := by decide +kernel
theorem dX1_add_74 : decode cX1_add 74 = .ok (.aload_n 0, 1) := by decide +kernel
theorem dX1_add_75 : decode cX1_add 75 = .ok (.iconst 1, 1) := by decide +kernel
theorem dX1_add_76 : decode cX1_add 76 = .ok (.invokevirtual 20, 3) := by decide +kernel
theorem dX1_add_79 : decode cX1_add 79 = .ok (.putfield 24, 3) := by decide +kernel
theorem dX1_add_82 : decode cX1_add 82 = .ok (.return_, 1) := by decide +kernel
theorem dX1_slot_0 : decode cX1_slot 0 = .ok (.aload_n 0, 1) := by decide +kernel
theorem dX1_slot_1 : decode cX1_slot 1 = .ok (.getfield 24, 3) := by decide +kernel
theorem dX1_slot_4 : decode cX1_slot 4 = .ok (.iload_n 1, 1) := by decide +kernel
theorem dX1_slot_5 : decode cX1_slot 5 = .ok (.iadd, 1) := by decide +kernel
theorem dX1_slot_6 : decode cX1_slot 6 = .ok (.bipush 8, 2) := by decide +kernel
theorem dX1_slot_8 : decode cX1_slot 8 = .ok (.irem, 1) := by decide +kernel
theorem dX1_slot_9 : decode cX1_slot 9 = .ok (.ireturn, 1) := by decide +kernel
theorem dX1_latest_0 : decode cX1_latest 0 = .ok (.aload_n 0, 1) := by decide +kernel
theorem dX1_latest_1 : decode cX1_latest 1 = .ok (.getfield 16, 3) := by decide +kernel
theorem dX1_latest_4 : decode cX1_latest 4 = .ok (.ifCond .ne 7, 3) := by decide +kernel
theorem dX1_latest_7 : decode cX1_latest 7 = .ok (.iconst 0, 1) := by decide +kernel
theorem dX1_latest_8 : decode cX1_latest 8 = .ok (.goto 20, 3) := by decide +kernel
theorem dX1_latest_11 : decode cX1_latest 11 = .ok (.aload_n 0, 1) := by decide +kernel
theorem dX1_latest_12 : decode cX1_latest 12 = .ok (.getfield 11, 3) := by decide +kernel
theorem dX1_latest_15 : decode cX1_latest 15 = .ok (.iload_n 1, 1) := by decide +kernel
theorem dX1_latest_16 : decode cX1_latest 16 = .ok (.aaload, 1) := by decide +kernel
theorem dX1_latest_17 : decode cX1_latest 17 = .ok (.aload_n 0, 1) := by decide +kernel
theorem dX1_latest_18 : decode cX1_latest 18 = .ok (.aload_n 0, 1) := by decide +kernel
theorem dX1_latest_19 : decode cX1_latest 19 = .ok (.getfield 16, 3) := by decide +kernel
theorem dX1_latest_22 : decode cX1_latest 22 = .ok (.iconst 1, 1) := by decide +kernel
theorem dX1_latest_23 : decode cX1_latest 23 = .ok (.isub, 1) := by decide +kernel
theorem dX1_latest_24 : decode cX1_latest 24 = .ok (.invokevirtual 20, 3) := by decide +kernel
theorem dX1_latest_27 : decode cX1_latest 27 = .ok (.iaload, 1) := by decide +kernel
theorem dX1_latest_28 : decode cX1_latest 28 = .ok (.ireturn, 1) := by decide +kernel
theorem dX1_dropLatest_0 : decode cX1_dropLatest 0 = .ok (.aload_n 0, 1) := by decide +kernel
theorem dX1_dropLatest_1 : decode cX1_dropLatest 1 = .ok (.getfield 16, 3) := by decide +kernel
theorem dX1_dropLatest_4 : decode cX1_dropLatest 4 = .ok (.ifCond .le 13, 3) := by decide +kernel
theorem dX1_dropLatest_7 : decode cX1_dropLatest 7 = .ok (.aload_n 0, 1) := by decide +kernel
theorem dX1_dropLatest_8 : decode cX1_dropLatest 8 = .ok (.dup, 1) := by decide +kernel
theorem dX1_dropLatest_9 : decode cX1_dropLatest 9 = .ok (.getfield 16, 3) := by decide +kernel
theorem dX1_dropLatest_12 : decode cX1_dropLatest 12 = .ok (.iconst 1, 1) := by decide +kernel
theorem dX1_dropLatest_13 : decode cX1_dropLatest 13 = .ok (.isub, 1) := by decide +kernel
theorem dX1_dropLatest_14 : decode cX1_dropLatest 14 = .ok (.putfield 16, 3) := by decide +kernel
theorem dX1_dropLatest_17 : decode cX1_dropLatest 17 = .ok (.return_, 1) := by decide +kernel
theorem dX2_init_0 : decode cX2_init 0 = .ok (.aload_n 0, 1) := by decide +kernel
theorem dX2_init_1 : decode cX2_init 1 = .ok (.invokespecial 3, 3) := by decide +kernel
theorem dX2_init_4 : decode cX2_init 4 = .ok (.aload_n 0, 1) := by decide +kernel
theorem dX2_init_5 : decode cX2_init 5 = .ok (.iconst 3, 1) := by decide +kernel
theorem dX2_init_6 : decode cX2_init 6 = .ok (.bipush 10, 2) := by decide +kernel
theorem dX2_init_8 : decode cX2_init 8 = .ok (.multianewarray 9 2, 4) := by decide +kernel
theorem dX2_init_12 : decode cX2_init 12 = .ok (.putfield 11, 3) := by decide +kernel
theorem dX2_init_15 : decode cX2_init 15 = .ok (.return_, 1) := by decide +kernel
theorem dX2_clear_0 : decode cX2_clear 0 = .ok (.aload_n 0, 1) := by decide +kernel
theorem dX2_clear_1 : decode cX2_clear 1 = .ok (.iconst 0, 1) := by decide +kernel
theorem dX2_clear_2 : decode cX2_clear 2 = .ok (.putfield 16, 3) := by decide +kernel
theorem dX2_clear_5 : decode cX2_clear 5 = .ok (.return_, 1) := by decide +kernel
theorem dX2_length_0 : decode cX2_length 0 = .ok (.aload_n 0, 1) := by decide +kernel
theorem dX2_length_1 : decode cX2_length 1 = .ok (.getfield 16, 3) := by decide +kernel
theorem dX2_length_4 : decode cX2_length 4 = .ok (.ireturn, 1) := by decide +kernel
theorem dX2_isFull_0 : decode cX2_isFull 0 = .ok (.aload_n 0, 1) := by decide +kernel
theorem dX2_isFull_1 : decode cX2_isFull 1 = .ok (.getfield 16, 3) := by decide +kernel
theorem dX2_isFull_4 : decode cX2_isFull 4 = .ok (.bipush 10, 2) := by decide +kernel
theorem dX2_isFull_6 : decode cX2_isFull 6 = .ok (.if_icmp .lt 7, 3) := by decide +kernel
theorem dX2_isFull_9 : decode cX2_isFull 9 = .ok (.iconst 1, 1) := by decide +kernel
theorem dX2_isFull_10 : decode cX2_isFull 10 = .ok (.goto 4, 3) := by decide +kernel
theorem dX2_isFull_13 : decode cX2_isFull 13 = .ok (.iconst 0, 1) := by decide +kernel
theorem dX2_isFull_14 : decode cX2_isFull 14 = .ok (.ireturn, 1) := by decide +kernel
theorem dX2_add_0 : decode cX2_add 0 = .ok (.aload_n 0, 1) := by decide +kernel
theorem dX2_add_1 : decode cX2_add 1 = .ok (.invokevirtual 20, 3) := by decide +kernel
theorem dX2_add_4 : decode cX2_add 4 = .ok (.ifCond .eq 4, 3) := by decide +kernel
theorem dX2_add_7 : decode cX2_add 7 = .ok (.return_, 1) := by decide +kernel
theorem dX2_add_8 : decode cX2_add 8 = .ok (.aload_n 0, 1) := by decide +kernel
theorem dX2_add_9 : decode cX2_add 9 = .ok (.getfield 11, 3) := by decide +kernel
theorem dX2_add_12 : decode cX2_add 12 = .ok (.iconst 0, 1) := by decide +kernel
theorem dX2_add_13 : decode cX2_add 13 = .ok (.aaload, 1) := by decide +kernel
theorem dX2_add_14 : decode cX2_add 14 = .ok (.aload_n 0, 1) := by decide +kernel
theorem dX2_add_15 : decode cX2_add 15 = .ok (.getfield 16, 3) := by decide +kernel
theorem dX2_add_18 : decode cX2_add 18 = .ok (.iload_n 1, 1) := by decide +kernel
theorem dX2_add_19 : decode cX2_add 19 = .ok (.iastore, 1) := by decide +kernel
theorem dX2_add_20 : decode cX2_add 20 = .ok (.aload_n 0, 1) := by decide +kernel
theorem dX2_add_21 : decode cX2_add 21 = .ok (.getfield 11, 3) := by decide +kernel
theorem dX2_add_24 : decode cX2_add 24 = .ok (.iconst 1, 1) := by decide +kernel
theorem dX2_add_25 : decode cX2_add 25 = .ok (.aaload, 1) := by decide +kernel
theorem dX2_add_26 : decode cX2_add 26 = .ok (.aload_n 0, 1) := by decide +kernel
theorem dX2_add_27 : decode cX2_add 27 = .ok (.getfield 16, 3) := by decide +kernel
theorem dX2_add_30 : decode cX2_add 30 = .ok (.iload_n 2, 1) := by decide +kernel
theorem dX2_add_31 : decode cX2_add 31 = .ok (.iastore, 1) := by decide +kernel
theorem dX2_add_32 : decode cX2_add 32 = .ok (.aload_n 0, 1) := by decide +kernel
theorem dX2_add_33 : decode cX2_add 33 = .ok (.getfield 11, 3) := by decide +kernel
theorem dX2_add_36 : decode cX2_add 36 = .ok (.iconst 2, 1) := by decide +kernel
theorem dX2_add_37 : decode cX2_add 37 = .ok (.aaload, 1) := by decide +kernel
theorem dX2_add_38 : decode cX2_add 38 = .ok (.aload_n 0, 1) := by decide +kernel
theorem dX2_add_39 : decode cX2_add 39 = .ok (.getfield 16, 3) := by decide +kernel
theorem dX2_add_42 : decode cX2_add 42 = .ok (.iload_n 3, 1) := by decide +kernel
theorem dX2_add_43 : decode cX2_add 43 = .ok (.iastore, 1) := by decide +kernel
theorem dX2_add_44 : decode cX2_add 44 = .ok (.aload_n 0, 1) := by decide +kernel
theorem dX2_add_45 : decode cX2_add 45 = .ok (.dup, 1) := by decide +kernel
theorem dX2_add_46 : decode cX2_add 46 = .ok (.getfield 16, 3) := by decide +kernel
theorem dX2_add_49 : decode cX2_add 49 = .ok (.iconst 1, 1) := by decide +kernel
theorem dX2_add_50 : decode cX2_add 50 = .ok (.iadd, 1) := by decide +kernel
theorem dX2_add_51 : decode cX2_add 51 = .ok (.putfield 16, 3) := by decide +kernel
theorem dX2_add_54 : decode cX2_add 54 = .ok (.return_, 1) := by decide +kernel
theorem dX2_dropLast_0 : decode cX2_dropLast 0 = .ok (.aload_n 0, 1) := by decide +kernel
theorem dX2_dropLast_1 : decode cX2_dropLast 1 = .ok (.getfield 16, 3) := by decide +kernel
theorem dX2_dropLast_4 : decode cX2_dropLast 4 = .ok (.ifCond .le 13, 3) := by decide +kernel
theorem dX2_dropLast_7 : decode cX2_dropLast 7 = .ok (.aload_n 0, 1) := by decide +kernel
theorem dX2_dropLast_8 : decode cX2_dropLast 8 = .ok (.dup, 1) := by decide +kernel
theorem dX2_dropLast_9 : decode cX2_dropLast 9 = .ok (.getfield 16, 3) := by decide +kernel
theorem dX2_dropLast_12 : decode cX2_dropLast 12 = .ok (.iconst 1, 1) := by decide +kernel
theorem dX2_dropLast_13 : decode cX2_dropLast 13 = .ok (.isub, 1) := by decide +kernel
theorem dX2_dropLast_14 : decode cX2_dropLast 14 = .ok (.putfield 16, 3) := by decide +kernel
theorem dX2_dropLast_17 : decode cX2_dropLast 17 = .ok (.return_, 1) := by decide +kernel
theorem dX2_property_0 : decode cX2_property 0 = .ok (.aload_n 0, 1) := by decide +kernel
theorem dX2_property_1 : decode cX2_property 1 = .ok (.getfield 11, 3) := by decide +kernel
theorem dX2_property_4 : decode cX2_property 4 = .ok (.iload_n 2, 1) := by decide +kernel
theorem dX2_property_5 : decode cX2_property 5 = .ok (.aaload, 1) := by decide +kernel
theorem dX2_property_6 : decode cX2_property 6 = .ok (.iload_n 1, 1) := by decide +kernel
theorem dX2_property_7 : decode cX2_property 7 = .ok (.iaload, 1) := by decide +kernel
theorem dX2_property_8 : decode cX2_property 8 = .ok (.ireturn, 1) := by decide +kernel
theorem dX3_init_0 : decode cX3_init 0 = .ok (.aload_n 0, 1) := by decide +kernel
theorem dX3_init_1 : decode cX3_init 1 = .ok (.invokespecial 3, 3) := by decide +kernel
theorem dX3_init_4 : decode cX3_init 4 = .ok (.aload_n 0, 1) := by decide +kernel
theorem dX3_init_5 : decode cX3_init 5 = .ok (.bipush 6, 2) := by decide +kernel
theorem dX3_init_7 : decode cX3_init 7 = .ok (.newarray .int, 2) := by decide +kernel
theorem dX3_init_9 : decode cX3_init 9 = .ok (.putfield 9, 3) := by decide +kernel
theorem dX3_init_12 : decode cX3_init 12 = .ok (.aload_n 0, 1) := by decide +kernel
theorem dX3_init_13 : decode cX3_init 13 = .ok (.bipush 6, 2) := by decide +kernel
theorem dX3_init_15 : decode cX3_init 15 = .ok (.newarray .int, 2) := by decide +kernel
theorem dX3_init_17 : decode cX3_init 17 = .ok (.putfield 15, 3) := by decide +kernel
theorem dX3_init_20 : decode cX3_init 20 = .ok (.aload_n 0, 1) := by decide +kernel
theorem dX3_init_21 : decode cX3_init 21 = .ok (.bipush 6, 2) := by decide +kernel
theorem dX3_init_23 : decode cX3_init 23 = .ok (.bipush 16, 2) := by decide +kernel
theorem dX3_init_25 : decode cX3_init 25 = .ok (.multianewarray 18 2, 4) := by decide +kernel
theorem dX3_init_29 : decode cX3_init 29 = .ok (.putfield 20, 3) := by decide +kernel
theorem dX3_init_32 : decode cX3_init 32 = .ok (.aload_n 0, 1) := by decide +kernel
theorem dX3_init_33 : decode cX3_init 33 = .ok (.iconst 4, 1) := by decide +kernel
theorem dX3_init_34 : decode cX3_init 34 = .ok (.newarray .int, 2) := by decide +kernel
theorem dX3_init_36 : decode cX3_init 36 = .ok (.putfield 23, 3) := by decide +kernel
theorem dX3_init_39 : decode cX3_init 39 = .ok (.return_, 1) := by decide +kernel
theorem dX3_startAfresh_0 : decode cX3_startAfresh 0 = .ok (.aload_n 0, 1) := by decide +kernel
theorem dX3_startAfresh_1 : decode cX3_startAfresh 1 = .ok (.iconst 0, 1) := by decide +kernel
theorem dX3_startAfresh_2 : decode cX3_startAfresh 2 = .ok (.putfield 26, 3) := by decide +kernel
theorem dX3_startAfresh_5 : decode cX3_startAfresh 5 = .ok (.aload_n 0, 1) := by decide +kernel
theorem dX3_startAfresh_6 : decode cX3_startAfresh 6 = .ok (.iconst 0, 1) := by decide +kernel
theorem dX3_startAfresh_7 : decode cX3_startAfresh 7 = .ok (.putfield 30, 3) := by decide +kernel
theorem dX3_startAfresh_10 : decode cX3_startAfresh 10 = .ok (.aload_n 0, 1) := by decide +kernel
theorem dX3_startAfresh_11 : decode cX3_startAfresh 11 = .ok (.bipush 20, 2) := by decide +kernel
theorem dX3_startAfresh_13 : decode cX3_startAfresh 13 = .ok (.putfield 33, 3) := by decide +kernel
theorem dX3_startAfresh_16 : decode cX3_startAfresh 16 = .ok (.iconst 0, 1) := by decide +kernel
theorem dX3_startAfresh_17 : decode cX3_startAfresh 17 = .ok (.istore_n 1, 1) := by decide +kernel
theorem dX3_startAfresh_18 : decode cX3_startAfresh 18 = .ok (.iload_n 1, 1) := by decide +kernel
theorem dX3_startAfresh_19 : decode cX3_startAfresh 19 = .ok (.iconst 4, 1) := by decide +kernel
theorem dX3_startAfresh_20 : decode cX3_startAfresh 20 = .ok (.if_icmp .ge 20, 3) := by decide +kernel
theorem dX3_startAfresh_23 : decode cX3_startAfresh 23 = .ok (.aload_n 0, 1) := by decide +kernel
theorem dX3_startAfresh_24 : decode cX3_startAfresh 24 = .ok (.getfield 23, 3) := by decide +kernel
theorem dX3_startAfresh_27 : decode cX3_startAfresh 27 = .ok (.iload_n 1, 1) := by decide +kernel
theorem dX3_startAfresh_28 : decode cX3_startAfresh 28 = .ok (.getstatic 36, 3) := by decide +kernel
theorem dX3_startAfresh_31 : decode cX3_startAfresh 31 = .ok (.iload_n 1, 1) := by decide +kernel
theorem dX3_startAfresh_32 : decode cX3_startAfresh 32 = .ok (.iaload, 1) := by decide +kernel
theorem dX3_startAfresh_33 : decode cX3_startAfresh 33 = .ok (.iastore, 1) := by decide +kernel
theorem dX3_startAfresh_34 : decode cX3_startAfresh 34 = .ok (.iinc 1 1, 3) := by decide +kernel
theorem dX3_startAfresh_37 : decode cX3_startAfresh 37 = .ok (.goto (-19), 3) := by decide +kernel
theorem dX3_startAfresh_40 : decode cX3_startAfresh 40 = .ok (.aload_n 0, 1) := by decide +kernel
theorem dX3_startAfresh_41 : decode cX3_startAfresh 41 = .ok (.dup, 1) := by decide +kernel
theorem dX3_startAfresh_42 : decode cX3_startAfresh 42 = .ok (.getfield 39, 3) := by decide +kernel
theorem dX3_startAfresh_45 : decode cX3_startAfresh 45 = .ok (.iconst 1, 1) := by decide +kernel
theorem dX3_startAfresh_46 : decode cX3_startAfresh 46 = .ok (.iadd, 1) := by decide +kernel
theorem dX3_startAfresh_47 : decode cX3_startAfresh 47 = .ok (.putfield 39, 3) := by decide +kernel
theorem dX3_startAfresh_50 : decode cX3_startAfresh 50 = .ok (.return_, 1) := by decide +kernel
theorem dX3_copyFrom_0 : decode cX3_copyFrom 0 = .ok (.aload_n 0, 1) := by decide +kernel
theorem dX3_copyFrom_1 : decode cX3_copyFrom 1 = .ok (.aload_n 1, 1) := by decide +kernel
theorem dX3_copyFrom_2 : decode cX3_copyFrom 2 = .ok (.getfield 26, 3) := by decide +kernel
theorem dX3_copyFrom_5 : decode cX3_copyFrom 5 = .ok (.putfield 26, 3) := by decide +kernel
theorem dX3_copyFrom_8 : decode cX3_copyFrom 8 = .ok (.aload_n 0, 1) := by decide +kernel
theorem dX3_copyFrom_9 : decode cX3_copyFrom 9 = .ok (.aload_n 1, 1) := by decide +kernel
theorem dX3_copyFrom_10 : decode cX3_copyFrom 10 = .ok (.getfield 30, 3) := by decide +kernel
theorem dX3_copyFrom_13 : decode cX3_copyFrom 13 = .ok (.putfield 30, 3) := by decide +kernel
theorem dX3_copyFrom_16 : decode cX3_copyFrom 16 = .ok (.aload_n 0, 1) := by decide +kernel
theorem dX3_copyFrom_17 : decode cX3_copyFrom 17 = .ok (.aload_n 1, 1) := by decide +kernel
theorem dX3_copyFrom_18 : decode cX3_copyFrom 18 = .ok (.getfield 33, 3) := by decide +kernel
theorem dX3_copyFrom_21 : decode cX3_copyFrom 21 = .ok (.putfield 33, 3) := by decide +kernel
theorem dX3_copyFrom_24 : decode cX3_copyFrom 24 = .ok (.iconst 0, 1) := by decide +kernel
theorem dX3_copyFrom_25 : decode cX3_copyFrom 25 = .ok (.istore_n 2, 1) := by decide +kernel
theorem dX3_copyFrom_26 : decode cX3_copyFrom 26 = .ok (.iload_n 2, 1) := by decide +kernel
theorem dX3_copyFrom_27 : decode cX3_copyFrom 27 = .ok (.iconst 4, 1) := by decide +kernel
theorem dX3_copyFrom_28 : decode cX3_copyFrom 28 = .ok (.if_icmp .ge 21, 3) := by decide +kernel
theorem dX3_copyFrom_31 : decode cX3_copyFrom 31 = .ok (.aload_n 0, 1) := by decide +kernel
theorem dX3_copyFrom_32 : decode cX3_copyFrom 32 = .ok (.getfield 23, 3) := by decide +kernel
theorem dX3_copyFrom_35 : decode cX3_copyFrom 35 = .ok (.iload_n 2, 1) := by decide +kernel
theorem dX3_copyFrom_36 : decode cX3_copyFrom 36 = .ok (.aload_n 1, 1) := by decide +kernel
theorem dX3_copyFrom_37 : decode cX3_copyFrom 37 = .ok (.getfield 23, 3) := by decide +kernel
theorem dX3_copyFrom_40 : decode cX3_copyFrom 40 = .ok (.iload_n 2, 1) := by decide +kernel
theorem dX3_copyFrom_41 : decode cX3_copyFrom 41 = .ok (.iaload, 1) := by decide +kernel
theorem dX3_copyFrom_42 : decode cX3_copyFrom 42 = .ok (.iastore, 1) := by decide +kernel
theorem dX3_copyFrom_43 : decode cX3_copyFrom 43 = .ok (.iinc 2 1, 3) := by decide +kernel
theorem dX3_copyFrom_46 : decode cX3_copyFrom 46 = .ok (.goto (-20), 3) := by decide +kernel
theorem dX3_copyFrom_49 : decode cX3_copyFrom 49 = .ok (.iconst 0, 1) := by decide +kernel
theorem dX3_copyFrom_50 : decode cX3_copyFrom 50 = .ok (.istore_n 2, 1) := by decide +kernel
theorem dX3_copyFrom_51 : decode cX3_copyFrom 51 = .ok (.iload_n 2, 1) := by decide +kernel
theorem dX3_copyFrom_52 : decode cX3_copyFrom 52 = .ok (.aload_n 0, 1) := by decide +kernel
theorem dX3_copyFrom_53 : decode cX3_copyFrom 53 = .ok (.getfield 30, 3) := by decide +kernel
theorem dX3_copyFrom_56 : decode cX3_copyFrom 56 = .ok (.if_icmp .ge 65, 3) := by decide +kernel
theorem dX3_copyFrom_59 : decode cX3_copyFrom 59 = .ok (.aload_n 0, 1) := by decide +kernel
theorem dX3_copyFrom_60 : decode cX3_copyFrom 60 = .ok (.getfield 9, 3) := by decide +kernel
theorem dX3_copyFrom_63 : decode cX3_copyFrom 63 = .ok (.iload_n 2, 1) := by decide +kernel
theorem dX3_copyFrom_64 : decode cX3_copyFrom 64 = .ok (.aload_n 1, 1) := by decide +kernel
theorem dX3_copyFrom_65 : decode cX3_copyFrom 65 = .ok (.getfield 9, 3) := by decide +kernel
theorem dX3_copyFrom_68 : decode cX3_copyFrom 68 = .ok (.iload_n 2, 1) := by decide +kernel
theorem dX3_copyFrom_69 : decode cX3_copyFrom 69 = .ok (.iaload, 1) := by decide +kernel
theorem dX3_copyFrom_70 : decode cX3_copyFrom 70 = .ok (.iastore, 1) := by decide +kernel
theorem dX3_copyFrom_71 : decode cX3_copyFrom 71 = .ok (.aload_n 0, 1) := by decide +kernel
theorem dX3_copyFrom_72 : decode cX3_copyFrom 72 = .ok (.getfield 15, 3) := by decide +kernel
theorem dX3_copyFrom_75 : decode cX3_copyFrom 75 = .ok (.iload_n 2, 1) := by decide +kernel
theorem dX3_copyFrom_76 : decode cX3_copyFrom 76 = .ok (.aload_n 1, 1) := by decide +kernel
theorem dX3_copyFrom_77 : decode cX3_copyFrom 77 = .ok (.getfield 15, 3) := by decide +kernel
theorem dX3_copyFrom_80 : decode cX3_copyFrom 80 = .ok (.iload_n 2, 1) := by decide +kernel
theorem dX3_copyFrom_81 : decode cX3_copyFrom 81 = .ok (.iaload, 1) := by decide +kernel
theorem dX3_copyFrom_82 : decode cX3_copyFrom 82 = .ok (.iastore, 1) := by decide +kernel
theorem dX3_copyFrom_83 : decode cX3_copyFrom 83 = .ok (.iconst 0, 1) := by decide +kernel
theorem dX3_copyFrom_84 : decode cX3_copyFrom 84 = .ok (.istore_n 3, 1) := by decide +kernel
theorem dX3_copyFrom_85 : decode cX3_copyFrom 85 = .ok (.iload_n 3, 1) := by decide +kernel
theorem dX3_copyFrom_86 : decode cX3_copyFrom 86 = .ok (.aload_n 0, 1) := by decide +kernel
theorem dX3_copyFrom_87 : decode cX3_copyFrom 87 = .ok (.getfield 26, 3) := by decide +kernel
theorem dX3_copyFrom_90 : decode cX3_copyFrom 90 = .ok (.if_icmp .ge 25, 3) := by decide +kernel
theorem dX3_copyFrom_93 : decode cX3_copyFrom 93 = .ok (.aload_n 0, 1) := by decide +kernel
theorem dX3_copyFrom_94 : decode cX3_copyFrom 94 = .ok (.getfield 20, 3) := by decide +kernel
theorem dX3_copyFrom_97 : decode cX3_copyFrom 97 = .ok (.iload_n 2, 1) := by decide +kernel
theorem dX3_copyFrom_98 : decode cX3_copyFrom 98 = .ok (.aaload, 1) := by decide +kernel
theorem dX3_copyFrom_99 : decode cX3_copyFrom 99 = .ok (.iload_n 3, 1) := by decide +kernel
theorem dX3_copyFrom_100 : decode cX3_copyFrom 100 = .ok (.aload_n 1, 1) := by decide +kernel
theorem dX3_copyFrom_101 : decode cX3_copyFrom 101 = .ok (.getfield 20, 3) := by decide +kernel
theorem dX3_copyFrom_104 : decode cX3_copyFrom 104 = .ok (.iload_n 2, 1) := by decide +kernel
theorem dX3_copyFrom_105 : decode cX3_copyFrom 105 = .ok (.aaload, 1) := by decide +kernel
theorem dX3_copyFrom_106 : decode cX3_copyFrom 106 = .ok (.iload_n 3, 1) := by decide +kernel
theorem dX3_copyFrom_107 : decode cX3_copyFrom 107 = .ok (.iaload, 1) := by decide +kernel
theorem dX3_copyFrom_108 : decode cX3_copyFrom 108 = .ok (.iastore, 1) := by decide +kernel
theorem dX3_copyFrom_109 : decode cX3_copyFrom 109 = .ok (.iinc 3 1, 3) := by decide +kernel
theorem dX3_copyFrom_112 : decode cX3_copyFrom 112 = .ok (.goto (-27), 3) := by decide +kernel
theorem dX3_copyFrom_115 : decode cX3_copyFrom 115 = .ok (.iinc 2 1, 3) := by decide +kernel
theorem dX3_copyFrom_118 : decode cX3_copyFrom 118 = .ok (.goto (-67), 3) := by decide +kernel
theorem dX3_copyFrom_121 : decode cX3_copyFrom 121 = .ok (.aload_n 0, 1) := by decide +kernel
theorem dX3_copyFrom_122 : decode cX3_copyFrom 122 = .ok (.dup, 1) := by decide +kernel
theorem dX3_copyFrom_123 : decode cX3_copyFrom 123 = .ok (.getfield 39, 3) := by decide +kernel
theorem dX3_copyFrom_126 : decode cX3_copyFrom 126 = .ok (.iconst 1, 1) := by decide +kernel
theorem dX3_copyFrom_127 : decode cX3_copyFrom 127 = .ok (.iadd, 1) := by decide +kernel
theorem dX3_copyFrom_128 : decode cX3_copyFrom 128 = .ok (.putfield 39, 3) := by decide +kernel
theorem dX3_copyFrom_131 : decode cX3_copyFrom 131 = .ok (.return_, 1) := by decide +kernel
theorem dX3_setYears_0 : decode cX3_setYears 0 = .ok (.aload_n 0, 1) := by decide +kernel
theorem dX3_setYears_1 : decode cX3_setYears 1 = .ok (.iload_n 1, 1) := by decide +kernel
theorem dX3_setYears_2 : decode cX3_setYears 2 = .ok (.putfield 26, 3) := by decide +kernel
theorem dX3_setYears_5 : decode cX3_setYears 5 = .ok (.aload_n 0, 1) := by decide +kernel
theorem dX3_setYears_6 : decode cX3_setYears 6 = .ok (.dup, 1) := by decide +kernel
theorem dX3_setYears_7 : decode cX3_setYears 7 = .ok (.getfield 39, 3) := by decide +kernel
theorem dX3_setYears_10 : decode cX3_setYears 10 = .ok (.iconst 1, 1) := by decide +kernel
theorem dX3_setYears_11 : decode cX3_setYears 11 = .ok (.iadd, 1) := by decide +kernel
theorem dX3_setYears_12 : decode cX3_setYears 12 = .ok (.putfield 39, 3) := by decide +kernel
theorem dX3_setYears_15 : decode cX3_setYears 15 = .ok (.return_, 1) := by decide +kernel
theorem dX3_addStation_0 : decode cX3_addStation 0 = .ok (.aload_n 0, 1) := by decide +kernel
theorem dX3_addStation_1 : decode cX3_addStation 1 = .ok (.getfield 30, 3) := by decide +kernel
theorem dX3_addStation_4 : decode cX3_addStation 4 = .ok (.bipush 6, 2) := by decide +kernel
theorem dX3_addStation_6 : decode cX3_addStation 6 = .ok (.if_icmp .lt 5, 3) := by decide +kernel
theorem dX3_addStation_9 : decode cX3_addStation 9 = .ok (.iconst 0, 1) := by decide +kernel
theorem dX3_addStation_10 : decode cX3_addStation 10 = .ok (.ireturn, 1) := by decide +kernel
theorem dX3_addStation_11 : decode cX3_addStation 11 = .ok (.aload_n 0, 1) := by decide +kernel
theorem dX3_addStation_12 : decode cX3_addStation 12 = .ok (.getfield 9, 3) := by decide +kernel
theorem dX3_addStation_15 : decode cX3_addStation 15 = .ok (.aload_n 0, 1) := by decide +kernel
theorem dX3_addStation_16 : decode cX3_addStation 16 = .ok (.getfield 30, 3) := by decide +kernel
theorem dX3_addStation_19 : decode cX3_addStation 19 = .ok (.iload_n 1, 1) := by decide +kernel
theorem dX3_addStation_20 : decode cX3_addStation 20 = .ok (.iastore, 1) := by decide +kernel
theorem dX3_addStation_21 : decode cX3_addStation 21 = .ok (.aload_n 0, 1) := by decide +kernel
theorem dX3_addStation_22 : decode cX3_addStation 22 = .ok (.getfield 15, 3) := by decide +kernel
theorem dX3_addStation_25 : decode cX3_addStation 25 = .ok (.aload_n 0, 1) := by decide +kernel
theorem dX3_addStation_26 : decode cX3_addStation 26 = .ok (.getfield 30, 3) := by decide +kernel
theorem dX3_addStation_29 : decode cX3_addStation 29 = .ok (.iload_n 2, 1) := by decide +kernel
theorem dX3_addStation_30 : decode cX3_addStation 30 = .ok (.iastore, 1) := by decide +kernel
theorem dX3_addStation_31 : decode cX3_addStation 31 = .ok (.aload_n 0, 1) := by decide +kernel
theorem dX3_addStation_32 : decode cX3_addStation 32 = .ok (.dup, 1) := by decide +kernel
theorem dX3_addStation_33 : decode cX3_addStation 33 = .ok (.getfield 30, 3) := by decide +kernel
theorem dX3_addStation_36 : decode cX3_addStation 36 = .ok (.iconst 1, 1) := by decide +kernel
theorem dX3_addStation_37 : decode cX3_addStation 37 = .ok (.iadd, 1) := by decide +kernel
theorem dX3_addStation_38 : decode cX3_addStation 38 = .ok (.putfield 30, 3) := by decide +kernel
theorem dX3_addStation_41 : decode cX3_addStation 41 = .ok (.aload_n 0, 1) := by decide +kernel
theorem dX3_addStation_42 : decode cX3_addStation 42 = .ok (.dup, 1) := by decide +kernel
theorem dX3_addStation_43 : decode cX3_addStation 43 = .ok (.getfield 39, 3) := by decide +kernel
theorem dX3_addStation_46 : decode cX3_addStation 46 = .ok (.iconst 1, 1) := by decide +kernel
theorem dX3_addStation_47 : decode cX3_addStation 47 = .ok (.iadd, 1) := by decide +kernel
theorem dX3_addStation_48 : decode cX3_addStation 48 = .ok (.putfield 39, 3) := by decide +kernel
theorem dX3_addStation_51 : decode cX3_addStation 51 = .ok (.iconst 1, 1) := by decide +kernel
theorem dX3_addStation_52 : decode cX3_addStation 52 = .ok (.ireturn, 1) := by decide +kernel
theorem dX3_version_0 : decode cX3_version 0 = .ok (.aload_n 0, 1) := by decide +kernel
theorem dX3_version_1 : decode cX3_version 1 = .ok (.getfield 39, 3) := by decide +kernel
theorem dX3_version_4 : decode cX3_version 4 = .ok (.ireturn, 1) := by decide +kernel
theorem dX3_years_0 : decode cX3_years 0 = .ok (.aload_n 0, 1) := by decide +kernel
theorem dX3_years_1 : decode cX3_years 1 = .ok (.getfield 26, 3) := by decide +kernel
theorem dX3_years_4 : decode cX3_years 4 = .ok (.ireturn, 1) := by decide +kernel
theorem dX3_stations_0 : decode cX3_stations 0 = .ok (.aload_n 0, 1) := by decide +kernel
theorem dX3_stations_1 : decode cX3_stations 1 = .ok (.getfield 30, 3) := by decide +kernel
theorem dX3_stations_4 : decode cX3_stations 4 = .ok (.ireturn, 1) := by decide +kernel
theorem dX3_hasStation_0 : decode cX3_hasStation 0 = .ok (.iload_n 1, 1) := by decide +kernel
theorem dX3_hasStation_1 : decode cX3_hasStation 1 = .ok (.ifCond .lt 15, 3) := by decide +kernel
theorem dX3_hasStation_4 : decode cX3_hasStation 4 = .ok (.iload_n 1, 1) := by decide +kernel
theorem dX3_hasStation_5 : decode cX3_hasStation 5 = .ok (.aload_n 0, 1) := by decide +kernel
theorem dX3_hasStation_6 : decode cX3_hasStation 6 = .ok (.getfield 30, 3) := by decide +kernel
theorem dX3_hasStation_9 : decode cX3_hasStation 9 = .ok (.if_icmp .ge 7, 3) := by decide +kernel
theorem dX3_hasStation_12 : decode cX3_hasStation 12 = .ok (.iconst 1, 1) := by decide +kernel
theorem dX3_hasStation_13 : decode cX3_hasStation 13 = .ok (.goto 4, 3) := by decide +kernel
theorem dX3_hasStation_16 : decode cX3_hasStation 16 = .ok (.iconst 0, 1) := by decide +kernel
theorem dX3_hasStation_17 : decode cX3_hasStation 17 = .ok (.ireturn, 1) := by decide +kernel
theorem dX3_knows_0 : decode cX3_knows 0 = .ok (.aload_n 0, 1) := by decide +kernel
theorem dX3_knows_1 : decode cX3_knows 1 = .ok (.iload_n 1, 1) := by decide +kernel
theorem dX3_knows_2 : decode cX3_knows 2 = .ok (.invokevirtual 42, 3) := by decide +kernel
theorem dX3_knows_5 : decode cX3_knows 5 = .ok (.ifCond .eq 19, 3) := by decide +kernel
theorem dX3_knows_8 : decode cX3_knows 8 = .ok (.iload_n 2, 1) := by decide +kernel
theorem dX3_knows_9 : decode cX3_knows 9 = .ok (.ifCond .lt 15, 3) := by decide +kernel
theorem dX3_knows_12 : decode cX3_knows 12 = .ok (.iload_n 2, 1) := by decide +kernel
theorem dX3_knows_13 : decode cX3_knows 13 = .ok (.aload_n 0, 1) := by decide +kernel
theorem dX3_knows_14 : decode cX3_knows 14 = .ok (.getfield 26, 3) := by decide +kernel
theorem dX3_knows_17 : decode cX3_knows 17 = .ok (.if_icmp .ge 7, 3) := by decide +kernel
theorem dX3_knows_20 : decode cX3_knows 20 = .ok (.iconst 1, 1) := by decide +kernel
theorem dX3_knows_21 : decode cX3_knows 21 = .ok (.goto 4, 3) := by decide +kernel
theorem dX3_knows_24 : decode cX3_knows 24 = .ok (.iconst 0, 1) := by decide +kernel
theorem dX3_knows_25 : decode cX3_knows 25 = .ok (.ireturn, 1) := by decide +kernel
theorem dX3_has_0 : decode cX3_has 0 = .ok (.aload_n 0, 1) := by decide +kernel
theorem dX3_has_1 : decode cX3_has 1 = .ok (.getfield 20, 3) := by decide +kernel
theorem dX3_has_4 : decode cX3_has 4 = .ok (.iload_n 1, 1) := by decide +kernel
theorem dX3_has_5 : decode cX3_has 5 = .ok (.aaload, 1) := by decide +kernel
theorem dX3_has_6 : decode cX3_has 6 = .ok (.iload_n 2, 1) := by decide +kernel
theorem dX3_has_7 : decode cX3_has 7 = .ok (.iaload, 1) := by decide +kernel
theorem dX3_has_8 : decode cX3_has 8 = .ok (.ldc 46, 2) := by decide +kernel
theorem dX3_has_10 : decode cX3_has 10 = .ok (.if_icmp .eq 7, 3) := by decide +kernel
theorem dX3_has_13 : decode cX3_has 13 = .ok (.iconst 1, 1) := by decide +kernel
theorem dX3_has_14 : decode cX3_has 14 = .ok (.goto 4, 3) := by decide +kernel
theorem dX3_has_17 : decode cX3_has 17 = .ok (.iconst 0, 1) := by decide +kernel
theorem dX3_has_18 : decode cX3_has 18 = .ok (.ireturn, 1) := by decide +kernel
theorem dX3_at_0 : decode cX3_at 0 = .ok (.aload_n 0, 1) := by decide +kernel
theorem dX3_at_1 : decode cX3_at 1 = .ok (.getfield 20, 3) := by decide +kernel
theorem dX3_at_4 : decode cX3_at 4 = .ok (.iload_n 1, 1) := by decide +kernel
theorem dX3_at_5 : decode cX3_at 5 = .ok (.aaload, 1) := by decide +kernel
theorem dX3_at_6 : decode cX3_at 6 = .ok (.iload_n 2, 1) := by decide +kernel
theorem dX3_at_7 : decode cX3_at 7 = .ok (.iaload, 1) := by decide +kernel
theorem dX3_at_8 : decode cX3_at 8 = .ok (.ireturn, 1) := by decide +kernel
theorem dX3_put_0 : decode cX3_put 0 = .ok (.aload_n 0, 1) := by decide +kernel
theorem dX3_put_1 : decode cX3_put 1 = .ok (.getfield 20, 3) := by decide +kernel
theorem dX3_put_4 : decode cX3_put 4 = .ok (.iload_n 1, 1) := by decide +kernel
theorem dX3_put_5 : decode cX3_put 5 = .ok (.aaload, 1) := by decide +kernel
theorem dX3_put_6 : decode cX3_put 6 = .ok (.iload_n 2, 1) := by decide +kernel
theorem dX3_put_7 : decode cX3_put 7 = .ok (.iload_n 3, 1) := by decide +kernel
theorem dX3_put_8 : decode cX3_put 8 = .ok (.iastore, 1) := by decide +kernel
theorem dX3_put_9 : decode cX3_put 9 = .ok (.aload_n 0, 1) := by decide +kernel
theorem dX3_put_10 : decode cX3_put 10 = .ok (.dup, 1) := by decide +kernel
theorem dX3_put_11 : decode cX3_put 11 = .ok (.getfield 39, 3) := by decide +kernel
theorem dX3_put_14 : decode cX3_put 14 = .ok (.iconst 1, 1) := by decide +kernel
theorem dX3_put_15 : decode cX3_put 15 = .ok (.iadd, 1) := by decide +kernel
theorem dX3_put_16 : decode cX3_put 16 = .ok (.putfield 39, 3) := by decide +kernel
theorem dX3_put_19 : decode cX3_put 19 = .ok (.return_, 1) := by decide +kernel
theorem dX3_breakPenalty_0 : decode cX3_breakPenalty 0 = .ok (.aload_n 0, 1) := by decide +kernel
theorem dX3_breakPenalty_1 : decode cX3_breakPenalty 1 = .ok (.getfield 33, 3) := by decide +kernel
theorem dX3_breakPenalty_4 : decode cX3_breakPenalty 4 = .ok (.ireturn, 1) := by decide +kernel
theorem dX3_setBreakPenalty_0 : decode cX3_setBreakPenalty 0 = .ok (.aload_n 0, 1) := by decide +kernel
theorem dX3_setBreakPenalty_1 : decode cX3_setBreakPenalty 1 = .ok (.iload_n 1, 1) := by decide +kernel
theorem dX3_setBreakPenalty_2 : decode cX3_setBreakPenalty 2 = .ok (.putfield 33, 3) := by decide +kernel
theorem dX3_setBreakPenalty_5 : decode cX3_setBreakPenalty 5 = .ok (.aload_n 0, 1) := by decide +kernel
theorem dX3_setBreakPenalty_6 : decode cX3_setBreakPenalty 6 = .ok (.dup, 1) := by decide +kernel
theorem dX3_setBreakPenalty_7 : decode cX3_setBreakPenalty 7 = .ok (.getfield 39, 3) := by decide +kernel
theorem dX3_setBreakPenalty_10 : decode cX3_setBreakPenalty 10 = .ok (.iconst 1, 1) := by decide +kernel
theorem dX3_setBreakPenalty_11 : decode cX3_setBreakPenalty 11 = .ok (.iadd, 1) := by decide +kernel
theorem dX3_setBreakPenalty_12 : decode cX3_setBreakPenalty 12 = .ok (.putfield 39, 3) := by decide +kernel
theorem dX3_setBreakPenalty_15 : decode cX3_setBreakPenalty 15 = .ok (.return_, 1) := by decide +kernel
theorem dX3_ruleOf_0 : decode cX3_ruleOf 0 = .ok (.aload_n 0, 1) := by decide +kernel
theorem dX3_ruleOf_1 : decode cX3_ruleOf 1 = .ok (.getfield 23, 3) := by decide +kernel
theorem dX3_ruleOf_4 : decode cX3_ruleOf 4 = .ok (.iload_n 1, 1) := by decide +kernel
theorem dX3_ruleOf_5 : decode cX3_ruleOf 5 = .ok (.iaload, 1) := by decide +kernel
theorem dX3_ruleOf_6 : decode cX3_ruleOf 6 = .ok (.ireturn, 1) := by decide +kernel
theorem dX3_setRule_0 : decode cX3_setRule 0 = .ok (.aload_n 0, 1) := by decide +kernel
theorem dX3_setRule_1 : decode cX3_setRule 1 = .ok (.getfield 23, 3) := by decide +kernel
theorem dX3_setRule_4 : decode cX3_setRule 4 = .ok (.iload_n 1, 1) := by decide +kernel
theorem dX3_setRule_5 : decode cX3_setRule 5 = .ok (.iload_n 2, 1) := by decide +kernel
theorem dX3_setRule_6 : decode cX3_setRule 6 = .ok (.iastore, 1) := by decide +kernel
theorem dX3_setRule_7 : decode cX3_setRule 7 = .ok (.aload_n 0, 1) := by decide +kernel
theorem dX3_setRule_8 : decode cX3_setRule 8 = .ok (.dup, 1) := by decide +kernel
theorem dX3_setRule_9 : decode cX3_setRule 9 = .ok (.getfield 39, 3) := by decide +kernel
theorem dX3_setRule_12 : decode cX3_setRule 12 = .ok (.iconst 1, 1) := by decide +kernel
theorem dX3_setRule_13 : decode cX3_setRule 13 = .ok (.iadd, 1) := by decide +kernel
theorem dX3_setRule_14 : decode cX3_setRule 14 = .ok (.putfield 39, 3) := by decide +kernel
theorem dX3_setRule_17 : decode cX3_setRule 17 = .ok (.return_, 1) := by decide +kernel
theorem dX3_canShiftEarlier_0 : decode cX3_canShiftEarlier 0 = .ok (.iconst 0, 1) := by decide +kernel
theorem dX3_canShiftEarlier_1 : decode cX3_canShiftEarlier 1 = .ok (.istore 4, 2) := by decide +kernel
theorem dX3_canShiftEarlier_3 : decode cX3_canShiftEarlier 3 = .ok (.iload 4, 2) := by decide +kernel
theorem dX3_canShiftEarlier_5 : decode cX3_canShiftEarlier 5 = .ok (.iload_n 2, 1) := by decide +kernel
theorem dX3_canShiftEarlier_6 : decode cX3_canShiftEarlier 6 = .ok (.if_icmp .ge 38, 3) := by decide +kernel
theorem dX3_canShiftEarlier_9 : decode cX3_canShiftEarlier 9 = .ok (.aload_n 0, 1) := by decide +kernel
theorem dX3_canShiftEarlier_10 : decode cX3_canShiftEarlier 10 = .ok (.iload_n 1, 1) := by decide +kernel
theorem dX3_canShiftEarlier_11 : decode cX3_canShiftEarlier 11 = .ok (.iload 4, 2) := by decide +kernel
theorem dX3_canShiftEarlier_13 : decode cX3_canShiftEarlier 13 = .ok (.invokevirtual 47, 3) := by decide +kernel
theorem dX3_canShiftEarlier_16 : decode cX3_canShiftEarlier 16 = .ok (.ifCond .eq 22, 3) := by decide +kernel
theorem dX3_canShiftEarlier_19 : decode cX3_canShiftEarlier 19 = .ok (.aload_n 0, 1) := by decide +kernel
theorem dX3_canShiftEarlier_20 : decode cX3_canShiftEarlier 20 = .ok (.getfield 20, 3) := by decide +kernel
theorem dX3_canShiftEarlier_23 : decode cX3_canShiftEarlier 23 = .ok (.iload_n 1, 1) := by decide +kernel
theorem dX3_canShiftEarlier_24 : decode cX3_canShiftEarlier 24 = .ok (.aaload, 1) := by decide +kernel
theorem dX3_canShiftEarlier_25 : decode cX3_canShiftEarlier 25 = .ok (.iload 4, 2) := by decide +kernel
theorem dX3_canShiftEarlier_27 : decode cX3_canShiftEarlier 27 = .ok (.iaload, 1) := by decide +kernel
theorem dX3_canShiftEarlier_28 : decode cX3_canShiftEarlier 28 = .ok (.iload_n 3, 1) := by decide +kernel
theorem dX3_canShiftEarlier_29 : decode cX3_canShiftEarlier 29 = .ok (.iadd, 1) := by decide +kernel
theorem dX3_canShiftEarlier_30 : decode cX3_canShiftEarlier 30 = .ok (.invokestatic 51, 3) := by decide +kernel
theorem dX3_canShiftEarlier_33 : decode cX3_canShiftEarlier 33 = .ok (.ifCond .ne 5, 3) := by decide +kernel
theorem dX3_canShiftEarlier_36 : decode cX3_canShiftEarlier 36 = .ok (.iconst 0, 1) := by decide +kernel
theorem dX3_canShiftEarlier_37 : decode cX3_canShiftEarlier 37 = .ok (.ireturn, 1) := by decide +kernel
theorem dX3_canShiftEarlier_38 : decode cX3_canShiftEarlier 38 = .ok (.iinc 4 1, 3) := by decide +kernel
theorem dX3_canShiftEarlier_41 : decode cX3_canShiftEarlier 41 = .ok (.goto (-38), 3) := by decide +kernel
theorem dX3_canShiftEarlier_44 : decode cX3_canShiftEarlier 44 = .ok (.iconst 1, 1) := by decide +kernel
theorem dX3_canShiftEarlier_45 : decode cX3_canShiftEarlier 45 = .ok (.ireturn, 1) := by decide +kernel
theorem dX3_shiftEarlier_0 : decode cX3_shiftEarlier 0 = .ok (.iconst 0, 1) := by decide +kernel
theorem dX3_shiftEarlier_1 : decode cX3_shiftEarlier 1 = .ok (.istore 4, 2) := by decide +kernel
theorem dX3_shiftEarlier_3 : decode cX3_shiftEarlier 3 = .ok (.iload 4, 2) := by decide +kernel
theorem dX3_shiftEarlier_5 : decode cX3_shiftEarlier 5 = .ok (.iload_n 2, 1) := by decide +kernel
theorem dX3_shiftEarlier_6 : decode cX3_shiftEarlier 6 = .ok (.if_icmp .ge 32, 3) := by decide +kernel
theorem dX3_shiftEarlier_9 : decode cX3_shiftEarlier 9 = .ok (.aload_n 0, 1) := by decide +kernel
theorem dX3_shiftEarlier_10 : decode cX3_shiftEarlier 10 = .ok (.iload_n 1, 1) := by decide +kernel
theorem dX3_shiftEarlier_11 : decode cX3_shiftEarlier 11 = .ok (.iload 4, 2) := by decide +kernel
theorem dX3_shiftEarlier_13 : decode cX3_shiftEarlier 13 = .ok (.invokevirtual 47, 3) := by decide +kernel
theorem dX3_shiftEarlier_16 : decode cX3_shiftEarlier 16 = .ok (.ifCond .eq 16, 3) := by decide +kernel
theorem dX3_shiftEarlier_19 : decode cX3_shiftEarlier 19 = .ok (.aload_n 0, 1) := by decide +kernel
theorem dX3_shiftEarlier_20 : decode cX3_shiftEarlier 20 = .ok (.getfield 20, 3) := by decide +kernel
theorem dX3_shiftEarlier_23 : decode cX3_shiftEarlier 23 = .ok (.iload_n 1, 1) := by decide +kernel
theorem dX3_shiftEarlier_24 : decode cX3_shiftEarlier 24 = .ok (.aaload, 1) := by decide +kernel
theorem dX3_shiftEarlier_25 : decode cX3_shiftEarlier 25 = .ok (.iload 4, 2) := by decide +kernel
theorem dX3_shiftEarlier_27 : decode cX3_shiftEarlier 27 = .ok (.dup2, 1) := by decide +kernel
theorem dX3_shiftEarlier_28 : decode cX3_shiftEarlier 28 = .ok (.iaload, 1) := by decide +kernel
theorem dX3_shiftEarlier_29 : decode cX3_shiftEarlier 29 = .ok (.iload_n 3, 1) := by decide +kernel
theorem dX3_shiftEarlier_30 : decode cX3_shiftEarlier 30 = .ok (.iadd, 1) := by decide +kernel
theorem dX3_shiftEarlier_31 : decode cX3_shiftEarlier 31 = .ok (.iastore, 1) := by decide +kernel
theorem dX3_shiftEarlier_32 : decode cX3_shiftEarlier 32 = .ok (.iinc 4 1, 3) := by decide +kernel
theorem dX3_shiftEarlier_35 : decode cX3_shiftEarlier 35 = .ok (.goto (-32), 3) := by decide +kernel
theorem dX3_shiftEarlier_38 : decode cX3_shiftEarlier 38 = .ok (.aload_n 0, 1) := by decide +kernel
theorem dX3_shiftEarlier_39 : decode cX3_shiftEarlier 39 = .ok (.dup, 1) := by decide +kernel
theorem dX3_shiftEarlier_40 : decode cX3_shiftEarlier 40 = .ok (.getfield 39, 3) := by decide +kernel
theorem dX3_shiftEarlier_43 : decode cX3_shiftEarlier 43 = .ok (.iconst 1, 1) := by decide +kernel
theorem dX3_shiftEarlier_44 : decode cX3_shiftEarlier 44 = .ok (.iadd, 1) := by decide +kernel
theorem dX3_shiftEarlier_45 : decode cX3_shiftEarlier 45 = .ok (.putfield 39, 3) := by decide +kernel
theorem dX3_shiftEarlier_48 : decode cX3_shiftEarlier 48 = .ok (.return_, 1) := by decide +kernel
theorem dX3_rank_0 : decode cX3_rank 0 = .ok (.aload_n 0, 1) := by decide +kernel
theorem dX3_rank_1 : decode cX3_rank 1 = .ok (.iload_n 1, 1) := by decide +kernel
theorem dX3_rank_2 : decode cX3_rank 2 = .ok (.iload_n 2, 1) := by decide +kernel
theorem dX3_rank_3 : decode cX3_rank 3 = .ok (.invokevirtual 54, 3) := by decide +kernel
theorem dX3_rank_6 : decode cX3_rank 6 = .ok (.istore_n 3, 1) := by decide +kernel
theorem dX3_rank_7 : decode cX3_rank 7 = .ok (.iconst 0, 1) := by decide +kernel
theorem dX3_rank_8 : decode cX3_rank 8 = .ok (.istore 4, 2) := by decide +kernel
theorem dX3_rank_10 : decode cX3_rank 10 = .ok (.iconst 0, 1) := by decide +kernel
theorem dX3_rank_11 : decode cX3_rank 11 = .ok (.istore 5, 2) := by decide +kernel
theorem dX3_rank_13 : decode cX3_rank 13 = .ok (.iload 5, 2) := by decide +kernel
theorem dX3_rank_15 : decode cX3_rank 15 = .ok (.aload_n 0, 1) := by decide +kernel
theorem dX3_rank_16 : decode cX3_rank 16 = .ok (.getfield 30, 3) := by decide +kernel
theorem dX3_rank_19 : decode cX3_rank 19 = .ok (.if_icmp .ge 45, 3) := by decide +kernel
theorem dX3_rank_22 : decode cX3_rank 22 = .ok (.aload_n 0, 1) := by decide +kernel
theorem dX3_rank_23 : decode cX3_rank 23 = .ok (.iload_n 1, 1) := by decide +kernel
theorem dX3_rank_24 : decode cX3_rank 24 = .ok (.iload 5, 2) := by decide +kernel
theorem dX3_rank_26 : decode cX3_rank 26 = .ok (.invokevirtual 54, 3) := by decide +kernel
theorem dX3_rank_29 : decode cX3_rank 29 = .ok (.istore 6, 2) := by decide +kernel
theorem dX3_rank_31 : decode cX3_rank 31 = .ok (.iload 5, 2) := by decide +kernel
theorem dX3_rank_33 : decode cX3_rank 33 = .ok (.iload_n 1, 1) := by decide +kernel
theorem dX3_rank_34 : decode cX3_rank 34 = .ok (.if_icmp .eq 24, 3) := by decide +kernel
theorem dX3_rank_37 : decode cX3_rank 37 = .ok (.iload 6, 2) := by decide +kernel
theorem dX3_rank_39 : decode cX3_rank 39 = .ok (.iload_n 3, 1) := by decide +kernel
theorem dX3_rank_40 : decode cX3_rank 40 = .ok (.if_icmp .lt 15, 3) := by decide +kernel
theorem dX3_rank_43 : decode cX3_rank 43 = .ok (.iload 6, 2) := by decide +kernel
theorem dX3_rank_45 : decode cX3_rank 45 = .ok (.iload_n 3, 1) := by decide +kernel
theorem dX3_rank_46 : decode cX3_rank 46 = .ok (.if_icmp .ne 12, 3) := by decide +kernel
theorem dX3_rank_49 : decode cX3_rank 49 = .ok (.iload 5, 2) := by decide +kernel
theorem dX3_rank_51 : decode cX3_rank 51 = .ok (.iload_n 2, 1) := by decide +kernel
theorem dX3_rank_52 : decode cX3_rank 52 = .ok (.if_icmp .ge 6, 3) := by decide +kernel
theorem dX3_rank_55 : decode cX3_rank 55 = .ok (.iinc 4 1, 3) := by decide +kernel
theorem dX3_rank_58 : decode cX3_rank 58 = .ok (.iinc 5 1, 3) := by decide +kernel
theorem dX3_rank_61 : decode cX3_rank 61 = .ok (.goto (-48), 3) := by decide +kernel
theorem dX3_rank_64 : decode cX3_rank 64 = .ok (.iload 4, 2) := by decide +kernel
theorem dX3_rank_66 : decode cX3_rank 66 = .ok (.ireturn, 1) := by decide +kernel
theorem dX3_squaredDistance_0 : decode cX3_squaredDistance 0 = .ok (.aload_n 0, 1) := by decide +kernel
theorem dX3_squaredDistance_1 : decode cX3_squaredDistance 1 = .ok (.getfield 9, 3) := by decide +kernel
theorem dX3_squaredDistance_4 : decode cX3_squaredDistance 4 = .ok (.iload_n 1, 1) := by decide +kernel
theorem dX3_squaredDistance_5 : decode cX3_squaredDistance 5 = .ok (.iaload, 1) := by decide +kernel
theorem dX3_squaredDistance_6 : decode cX3_squaredDistance 6 = .ok (.aload_n 0, 1) := by decide +kernel
theorem dX3_squaredDistance_7 : decode cX3_squaredDistance 7 = .ok (.getfield 9, 3) := by decide +kernel
theorem dX3_squaredDistance_10 : decode cX3_squaredDistance 10 = .ok (.iload_n 2, 1) := by decide +kernel
theorem dX3_squaredDistance_11 : decode cX3_squaredDistance 11 = .ok (.iaload, 1) := by decide +kernel
theorem dX3_squaredDistance_12 : decode cX3_squaredDistance 12 = .ok (.isub, 1) := by decide +kernel
theorem dX3_squaredDistance_13 : decode cX3_squaredDistance 13 = .ok (.istore_n 3, 1) := by decide +kernel
theorem dX3_squaredDistance_14 : decode cX3_squaredDistance 14 = .ok (.aload_n 0, 1) := by decide +kernel
theorem dX3_squaredDistance_15 : decode cX3_squaredDistance 15 = .ok (.getfield 15, 3) := by decide +kernel
theorem dX3_squaredDistance_18 : decode cX3_squaredDistance 18 = .ok (.iload_n 1, 1) := by decide +kernel
theorem dX3_squaredDistance_19 : decode cX3_squaredDistance 19 = .ok (.iaload, 1) := by decide +kernel
theorem dX3_squaredDistance_20 : decode cX3_squaredDistance 20 = .ok (.aload_n 0, 1) := by decide +kernel
theorem dX3_squaredDistance_21 : decode cX3_squaredDistance 21 = .ok (.getfield 15, 3) := by decide +kernel
theorem dX3_squaredDistance_24 : decode cX3_squaredDistance 24 = .ok (.iload_n 2, 1) := by decide +kernel
theorem dX3_squaredDistance_25 : decode cX3_squaredDistance 25 = .ok (.iaload, 1) := by decide +kernel
theorem dX3_squaredDistance_26 : decode cX3_squaredDistance 26 = .ok (.isub, 1) := by decide +kernel
theorem dX3_squaredDistance_27 : decode cX3_squaredDistance 27 = .ok (.istore 4, 2) := by decide +kernel
theorem dX3_squaredDistance_29 : decode cX3_squaredDistance 29 = .ok (.iload_n 3, 1) := by decide +kernel
theorem dX3_squaredDistance_30 : decode cX3_squaredDistance 30 = .ok (.iload_n 3, 1) := by decide +kernel
theorem dX3_squaredDistance_31 : decode cX3_squaredDistance 31 = .ok (.imul, 1) := by decide +kernel
theorem dX3_squaredDistance_32 : decode cX3_squaredDistance 32 = .ok (.iload 4, 2) := by decide +kernel
theorem dX3_squaredDistance_34 : decode cX3_squaredDistance 34 = .ok (.iload 4, 2) := by decide +kernel
theorem dX3_squaredDistance_36 : decode cX3_squaredDistance 36 = .ok (.imul, 1) := by decide +kernel
theorem dX3_squaredDistance_37 : decode cX3_squaredDistance 37 = .ok (.iadd, 1) := by decide +kernel
theorem dX3_squaredDistance_38 : decode cX3_squaredDistance 38 = .ok (.ireturn, 1) := by decide +kernel
theorem dX3_arePair_0 : decode cX3_arePair 0 = .ok (.aload_n 0, 1) := by decide +kernel
theorem dX3_arePair_1 : decode cX3_arePair 1 = .ok (.iload_n 1, 1) := by decide +kernel
theorem dX3_arePair_2 : decode cX3_arePair 2 = .ok (.iload_n 2, 1) := by decide +kernel
theorem dX3_arePair_3 : decode cX3_arePair 3 = .ok (.invokevirtual 58, 3) := by decide +kernel
theorem dX3_arePair_6 : decode cX3_arePair 6 = .ok (.aload_n 0, 1) := by decide +kernel
theorem dX3_arePair_7 : decode cX3_arePair 7 = .ok (.getfield 23, 3) := by decide +kernel
theorem dX3_arePair_10 : decode cX3_arePair 10 = .ok (.iconst 1, 1) := by decide +kernel
theorem dX3_arePair_11 : decode cX3_arePair 11 = .ok (.iaload, 1) := by decide +kernel
theorem dX3_arePair_12 : decode cX3_arePair 12 = .ok (.if_icmp .lt 18, 3) := by decide +kernel
theorem dX3_arePair_15 : decode cX3_arePair 15 = .ok (.aload_n 0, 1) := by decide +kernel
theorem dX3_arePair_16 : decode cX3_arePair 16 = .ok (.iload_n 2, 1) := by decide +kernel
theorem dX3_arePair_17 : decode cX3_arePair 17 = .ok (.iload_n 1, 1) := by decide +kernel
theorem dX3_arePair_18 : decode cX3_arePair 18 = .ok (.invokevirtual 58, 3) := by decide +kernel
theorem dX3_arePair_21 : decode cX3_arePair 21 = .ok (.aload_n 0, 1) := by decide +kernel
theorem dX3_arePair_22 : decode cX3_arePair 22 = .ok (.getfield 23, 3) := by decide +kernel
theorem dX3_arePair_25 : decode cX3_arePair 25 = .ok (.iconst 1, 1) := by decide +kernel
theorem dX3_arePair_26 : decode cX3_arePair 26 = .ok (.iaload, 1) := by decide +kernel
theorem dX3_arePair_27 : decode cX3_arePair 27 = .ok (.if_icmp .ge 7, 3) := by decide +kernel
theorem dX3_arePair_30 : decode cX3_arePair 30 = .ok (.iconst 1, 1) := by decide +kernel
theorem dX3_arePair_31 : decode cX3_arePair 31 = .ok (.goto 4, 3) := by decide +kernel
theorem dX3_arePair_34 : decode cX3_arePair 34 = .ok (.iconst 0, 1) := by decide +kernel
theorem dX3_arePair_35 : decode cX3_arePair 35 = .ok (.ireturn, 1) := by decide +kernel
theorem dX3_countPairs_0 : decode cX3_countPairs 0 = .ok (.iconst 0, 1) := by decide +kernel
theorem dX3_countPairs_1 : decode cX3_countPairs 1 = .ok (.istore_n 1, 1) := by decide +kernel
theorem dX3_countPairs_2 : decode cX3_countPairs 2 = .ok (.iconst 0, 1) := by decide +kernel
theorem dX3_countPairs_3 : decode cX3_countPairs 3 = .ok (.istore_n 2, 1) := by decide +kernel
theorem dX3_countPairs_4 : decode cX3_countPairs 4 = .ok (.iload_n 2, 1) := by decide +kernel
theorem dX3_countPairs_5 : decode cX3_countPairs 5 = .ok (.aload_n 0, 1) := by decide +kernel
theorem dX3_countPairs_6 : decode cX3_countPairs 6 = .ok (.getfield 30, 3) := by decide +kernel
theorem dX3_countPairs_9 : decode cX3_countPairs 9 = .ok (.if_icmp .ge 39, 3) := by decide +kernel
theorem dX3_countPairs_12 : decode cX3_countPairs 12 = .ok (.iload_n 2, 1) := by decide +kernel
theorem dX3_countPairs_13 : decode cX3_countPairs 13 = .ok (.iconst 1, 1) := by decide +kernel
theorem dX3_countPairs_14 : decode cX3_countPairs 14 = .ok (.iadd, 1) := by decide +kernel
theorem dX3_countPairs_15 : decode cX3_countPairs 15 = .ok (.istore_n 3, 1) := by decide +kernel
theorem dX3_countPairs_16 : decode cX3_countPairs 16 = .ok (.iload_n 3, 1) := by decide +kernel
theorem dX3_countPairs_17 : decode cX3_countPairs 17 = .ok (.aload_n 0, 1) := by decide +kernel
theorem dX3_countPairs_18 : decode cX3_countPairs 18 = .ok (.getfield 30, 3) := by decide +kernel
theorem dX3_countPairs_21 : decode cX3_countPairs 21 = .ok (.if_icmp .ge 21, 3) := by decide +kernel
theorem dX3_countPairs_24 : decode cX3_countPairs 24 = .ok (.aload_n 0, 1) := by decide +kernel
theorem dX3_countPairs_25 : decode cX3_countPairs 25 = .ok (.iload_n 2, 1) := by decide +kernel
theorem dX3_countPairs_26 : decode cX3_countPairs 26 = .ok (.iload_n 3, 1) := by decide +kernel
theorem dX3_countPairs_27 : decode cX3_countPairs 27 = .ok (.invokevirtual 61, 3) := by decide +kernel
theorem dX3_countPairs_30 : decode cX3_countPairs 30 = .ok (.ifCond .eq 6, 3) := by decide +kernel
theorem dX3_countPairs_33 : decode cX3_countPairs 33 = .ok (.iinc 1 1, 3) := by decide +kernel
theorem dX3_countPairs_36 : decode cX3_countPairs 36 = .ok (.iinc 3 1, 3) := by decide +kernel
theorem dX3_countPairs_39 : decode cX3_countPairs 39 = .ok (.goto (-23), 3) := by decide +kernel
theorem dX3_countPairs_42 : decode cX3_countPairs 42 = .ok (.iinc 2 1, 3) := by decide +kernel
theorem dX3_countPairs_45 : decode cX3_countPairs 45 = .ok (.goto (-41), 3) := by decide +kernel
theorem dX3_countPairs_48 : decode cX3_countPairs 48 = .ok (.iload_n 1, 1) := by decide +kernel
theorem dX3_countPairs_49 : decode cX3_countPairs 49 = .ok (.ireturn, 1) := by decide +kernel
theorem dX3_countMissing_0 : decode cX3_countMissing 0 = .ok (.iconst 0, 1) := by decide +kernel
theorem dX3_countMissing_1 : decode cX3_countMissing 1 = .ok (.istore_n 1, 1) := by decide +kernel
theorem dX3_countMissing_2 : decode cX3_countMissing 2 = .ok (.iconst 0, 1) := by decide +kernel
theorem dX3_countMissing_3 : decode cX3_countMissing 3 = .ok (.istore_n 2, 1) := by decide +kernel
theorem dX3_countMissing_4 : decode cX3_countMissing 4 = .ok (.iload_n 2, 1) := by decide +kernel
theorem dX3_countMissing_5 : decode cX3_countMissing 5 = .ok (.aload_n 0, 1) := by decide +kernel
theorem dX3_countMissing_6 : decode cX3_countMissing 6 = .ok (.getfield 30, 3) := by decide +kernel
theorem dX3_countMissing_9 : decode cX3_countMissing 9 = .ok (.if_icmp .ge 37, 3) := by decide +kernel
theorem dX3_countMissing_12 : decode cX3_countMissing 12 = .ok (.iconst 0, 1) := by decide +kernel
theorem dX3_countMissing_13 : decode cX3_countMissing 13 = .ok (.istore_n 3, 1) := by decide +kernel
theorem dX3_countMissing_14 : decode cX3_countMissing 14 = .ok (.iload_n 3, 1) := by decide +kernel
theorem dX3_countMissing_15 : decode cX3_countMissing 15 = .ok (.aload_n 0, 1) := by decide +kernel
theorem dX3_countMissing_16 : decode cX3_countMissing 16 = .ok (.getfield 26, 3) := by decide +kernel
theorem dX3_countMissing_19 : decode cX3_countMissing 19 = .ok (.if_icmp .ge 21, 3) := by decide +kernel
theorem dX3_countMissing_22 : decode cX3_countMissing 22 = .ok (.aload_n 0, 1) := by decide +kernel
theorem dX3_countMissing_23 : decode cX3_countMissing 23 = .ok (.iload_n 2, 1) := by decide +kernel
theorem dX3_countMissing_24 : decode cX3_countMissing 24 = .ok (.iload_n 3, 1) := by decide +kernel
theorem dX3_countMissing_25 : decode cX3_countMissing 25 = .ok (.invokevirtual 47, 3) := by decide +kernel
theorem dX3_countMissing_28 : decode cX3_countMissing 28 = .ok (.ifCond .ne 6, 3) := by decide +kernel
theorem dX3_countMissing_31 : decode cX3_countMissing 31 = .ok (.iinc 1 1, 3) := by decide +kernel
theorem dX3_countMissing_34 : decode cX3_countMissing 34 = .ok (.iinc 3 1, 3) := by decide +kernel
theorem dX3_countMissing_37 : decode cX3_countMissing 37 = .ok (.goto (-23), 3) := by decide +kernel
theorem dX3_countMissing_40 : decode cX3_countMissing 40 = .ok (.iinc 2 1, 3) := by decide +kernel
theorem dX3_countMissing_43 : decode cX3_countMissing 43 = .ok (.goto (-39), 3) := by decide +kernel
theorem dX3_countMissing_46 : decode cX3_countMissing 46 = .ok (.iload_n 1, 1) := by decide +kernel
theorem dX3_countMissing_47 : decode cX3_countMissing 47 = .ok (.ireturn, 1) := by decide +kernel
theorem dX4_init_0 : decode cX4_init 0 = .ok (.aload_n 0, 1) := by decide +kernel
theorem dX4_init_1 : decode cX4_init 1 = .ok (.invokespecial 3, 3) := by decide +kernel
theorem dX4_init_4 : decode cX4_init 4 = .ok (.aload_n 0, 1) := by decide +kernel
theorem dX4_init_5 : decode cX4_init 5 = .ok (.sipush 200, 3) := by decide +kernel
theorem dX4_init_8 : decode cX4_init 8 = .ok (.newarray .char, 2) := by decide +kernel
theorem dX4_init_10 : decode cX4_init 10 = .ok (.putfield 9, 3) := by decide +kernel
theorem dX4_init_13 : decode cX4_init 13 = .ok (.aload_n 0, 1) := by decide +kernel
theorem dX4_init_14 : decode cX4_init 14 = .ok (.new 15, 3) := by decide +kernel
theorem dX4_init_17 : decode cX4_init 17 = .ok (.dup, 1) := by decide +kernel
theorem dX4_init_18 : decode cX4_init 18 = .ok (.invokespecial 17, 3) := by decide +kernel
theorem dX4_init_21 : decode cX4_init 21 = .ok (.putfield 18, 3) := by decide +kernel
theorem dX4_init_24 : decode cX4_init 24 = .ok (.return_, 1) := by decide +kernel
theorem dX4_append_0 : decode cX4_append 0 = .ok (.aload_n 0, 1) := by decide +kernel
theorem dX4_append_1 : decode cX4_append 1 = .ok (.getfield 22, 3) := by decide +kernel
theorem dX4_append_4 : decode cX4_append 4 = .ok (.sipush 200, 3) := by decide +kernel
theorem dX4_append_7 : decode cX4_append 7 = .ok (.if_icmp .lt 5, 3) := by decide +kernel
theorem dX4_append_10 : decode cX4_append 10 = .ok (.iconst 0, 1) := by decide +kernel
theorem dX4_append_11 : decode cX4_append 11 = .ok (.ireturn, 1) := by decide +kernel
theorem dX4_append_12 : decode cX4_append 12 = .ok (.aload_n 0, 1) := by decide +kernel
theorem dX4_append_13 : decode cX4_append 13 = .ok (.getfield 9, 3) := by decide +kernel
theorem dX4_append_16 : decode cX4_append 16 = .ok (.aload_n 0, 1) := by decide +kernel
theorem dX4_append_17 : decode cX4_append 17 = .ok (.getfield 22, 3) := by decide +kernel
theorem dX4_append_20 : decode cX4_append 20 = .ok (.iload_n 1, 1) := by decide +kernel
theorem dX4_append_21 : decode cX4_append 21 = .ok (.castore, 1) := by decide +kernel
theorem dX4_append_22 : decode cX4_append 22 = .ok (.aload_n 0, 1) := by decide +kernel
theorem dX4_append_23 : decode cX4_append 23 = .ok (.dup, 1) := by decide +kernel
theorem dX4_append_24 : decode cX4_append 24 = .ok (.getfield 22, 3) := by decide +kernel
theorem dX4_append_27 : decode cX4_append 27 = .ok (.iconst 1, 1) := by decide +kernel
theorem dX4_append_28 : decode cX4_append 28 = .ok (.iadd, 1) := by decide +kernel
theorem dX4_append_29 : decode cX4_append 29 = .ok (.putfield 22, 3) := by decide +kernel
theorem dX4_append_32 : decode cX4_append 32 = .ok (.iconst 1, 1) := by decide +kernel
theorem dX4_append_33 : decode cX4_append 33 = .ok (.ireturn, 1) := by decide +kernel
theorem dX4_clear_0 : decode cX4_clear 0 = .ok (.aload_n 0, 1) := by decide +kernel
theorem dX4_clear_1 : decode cX4_clear 1 = .ok (.iconst 0, 1) := by decide +kernel
theorem dX4_clear_2 : decode cX4_clear 2 = .ok (.putfield 22, 3) := by decide +kernel
theorem dX4_clear_5 : decode cX4_clear 5 = .ok (.return_, 1) := by decide +kernel
theorem dX4_length_0 : decode cX4_length 0 = .ok (.aload_n 0, 1) := by decide +kernel
theorem dX4_length_1 : decode cX4_length 1 = .ok (.getfield 22, 3) := by decide +kernel
theorem dX4_length_4 : decode cX4_length 4 = .ok (.ireturn, 1) := by decide +kernel
theorem dX4_draft_0 : decode cX4_draft 0 = .ok (.aload_n 0, 1) := by decide +kernel
theorem dX4_draft_1 : decode cX4_draft 1 = .ok (.getfield 18, 3) := by decide +kernel
theorem dX4_draft_4 : decode cX4_draft 4 = .ok (.areturn, 1) := by decide +kernel
theorem dX4_read_0 : decode cX4_read 0 = .ok (.aload_n 0, 1) := by decide +kernel
theorem dX4_read_1 : decode cX4_read 1 = .ok (.getfield 18, 3) := by decide +kernel
theorem dX4_read_4 : decode cX4_read 4 = .ok (.invokevirtual 26, 3) := by decide +kernel
theorem dX4_read_7 : decode cX4_read 7 = .ok (.iconst 0, 1) := by decide +kernel
theorem dX4_read_8 : decode cX4_read 8 = .ok (.istore_n 1, 1) := by decide +kernel
theorem dX4_read_9 : decode cX4_read 9 = .ok (.iload_n 1, 1) := by decide +kernel
theorem dX4_read_10 : decode cX4_read 10 = .ok (.aload_n 0, 1) := by decide +kernel
theorem dX4_read_11 : decode cX4_read 11 = .ok (.getfield 22, 3) := by decide +kernel
theorem dX4_read_14 : decode cX4_read 14 = .ok (.if_icmp .ge 23, 3) := by decide +kernel
theorem dX4_read_17 : decode cX4_read 17 = .ok (.aload_n 0, 1) := by decide +kernel
theorem dX4_read_18 : decode cX4_read 18 = .ok (.iload_n 1, 1) := by decide +kernel
theorem dX4_read_19 : decode cX4_read 19 = .ok (.invokevirtual 29, 3) := by decide +kernel
theorem dX4_read_22 : decode cX4_read 22 = .ok (.istore_n 2, 1) := by decide +kernel
theorem dX4_read_23 : decode cX4_read 23 = .ok (.iload_n 2, 1) := by decide +kernel
theorem dX4_read_24 : decode cX4_read 24 = .ok (.iconst 1, 1) := by decide +kernel
theorem dX4_read_25 : decode cX4_read 25 = .ok (.if_icmp .ge 5, 3) := by decide +kernel
theorem dX4_read_28 : decode cX4_read 28 = .ok (.iload_n 1, 1) := by decide +kernel
theorem dX4_read_29 : decode cX4_read 29 = .ok (.ireturn, 1) := by decide +kernel
theorem dX4_read_30 : decode cX4_read 30 = .ok (.iload_n 1, 1) := by decide +kernel
theorem dX4_read_31 : decode cX4_read 31 = .ok (.iload_n 2, 1) := by decide +kernel
theorem dX4_read_32 : decode cX4_read 32 = .ok (.iadd, 1) := by decide +kernel
theorem dX4_read_33 : decode cX4_read 33 = .ok (.istore_n 1, 1) := by decide +kernel
theorem dX4_read_34 : decode cX4_read 34 = .ok (.goto (-25), 3) := by decide +kernel
theorem dX4_read_37 : decode cX4_read 37 = .ok (.bipush (-4), 2) := by decide +kernel
theorem dX4_read_39 : decode cX4_read 39 = .ok (.ireturn, 1) := by decide +kernel
theorem dX4_readItem_0 : decode cX4_readItem 0 = .ok (.aload_n 0, 1) := by decide +kernel
theorem dX4_readItem_1 : decode cX4_readItem 1 = .ok (.getfield 9, 3) := by decide +kernel
theorem dX4_readItem_4 : decode cX4_readItem 4 = .ok (.iload_n 1, 1) := by decide +kernel
theorem dX4_readItem_5 : decode cX4_readItem 5 = .ok (.caload, 1) := by decide +kernel
theorem dX4_readItem_6 : decode cX4_readItem 6 = .ok (.istore_n 2, 1) := by decide +kernel
theorem dX4_readItem_7 : decode cX4_readItem 7 = .ok (.iload_n 2, 1) := by decide +kernel
theorem dX4_readItem_8 : decode cX4_readItem 8 = .ok (.bipush 121, 2) := by decide +kernel
theorem dX4_readItem_10 : decode cX4_readItem 10 = .ok (.if_icmp .ne 9, 3) := by decide +kernel
theorem dX4_readItem_13 : decode cX4_readItem 13 = .ok (.aload_n 0, 1) := by decide +kernel
theorem dX4_readItem_14 : decode cX4_readItem 14 = .ok (.iload_n 1, 1) := by decide +kernel
theorem dX4_readItem_15 : decode cX4_readItem 15 = .ok (.invokevirtual 33, 3) := by decide +kernel
theorem dX4_readItem_18 : decode cX4_readItem 18 = .ok (.ireturn, 1) := by decide +kernel
theorem dX4_readItem_19 : decode cX4_readItem 19 = .ok (.aload_n 0, 1) := by decide +kernel
theorem dX4_readItem_20 : decode cX4_readItem 20 = .ok (.getfield 18, 3) := by decide +kernel
theorem dX4_readItem_23 : decode cX4_readItem 23 = .ok (.invokevirtual 36, 3) := by decide +kernel
theorem dX4_readItem_26 : decode cX4_readItem 26 = .ok (.ifCond .ne 5, 3) := by decide +kernel
theorem dX4_readItem_29 : decode cX4_readItem 29 = .ok (.iconst 0, 1) := by decide +kernel
theorem dX4_readItem_30 : decode cX4_readItem 30 = .ok (.ireturn, 1) := by decide +kernel
theorem dX4_readItem_31 : decode cX4_readItem 31 = .ok (.iload_n 2, 1) := by decide +kernel
theorem dX4_readItem_32 : decode cX4_readItem 32 = .ok (.bipush 115, 2) := by decide +kernel
theorem dX4_readItem_34 : decode cX4_readItem 34 = .ok (.if_icmp .ne 9, 3) := by decide +kernel
theorem dX4_readItem_37 : decode cX4_readItem 37 = .ok (.aload_n 0, 1) := by decide +kernel
theorem dX4_readItem_38 : decode cX4_readItem 38 = .ok (.iload_n 1, 1) := by decide +kernel
theorem dX4_readItem_39 : decode cX4_readItem 39 = .ok (.invokevirtual 40, 3) := by decide +kernel
theorem dX4_readItem_42 : decode cX4_readItem 42 = .ok (.ireturn, 1) := by decide +kernel
theorem dX4_readItem_43 : decode cX4_readItem 43 = .ok (.iload_n 2, 1) := by decide +kernel
theorem dX4_readItem_44 : decode cX4_readItem 44 = .ok (.bipush 112, 2) := by decide +kernel
theorem dX4_readItem_46 : decode cX4_readItem 46 = .ok (.if_icmp .ne 9, 3) := by decide +kernel
theorem dX4_readItem_49 : decode cX4_readItem 49 = .ok (.aload_n 0, 1) := by decide +kernel
theorem dX4_readItem_50 : decode cX4_readItem 50 = .ok (.iload_n 1, 1) := by decide +kernel
theorem dX4_readItem_51 : decode cX4_readItem 51 = .ok (.invokevirtual 43, 3) := by decide +kernel
theorem dX4_readItem_54 : decode cX4_readItem 54 = .ok (.ireturn, 1) := by decide +kernel
theorem dX4_readItem_55 : decode cX4_readItem 55 = .ok (.iload_n 2, 1) := by decide +kernel
theorem dX4_readItem_56 : decode cX4_readItem 56 = .ok (.bipush 108, 2) := by decide +kernel
theorem dX4_readItem_58 : decode cX4_readItem 58 = .ok (.if_icmp .ne 11, 3) := by decide +kernel
theorem dX4_readItem_61 : decode cX4_readItem 61 = .ok (.aload_n 0, 1) := by decide +kernel
theorem dX4_readItem_62 : decode cX4_readItem 62 = .ok (.iload_n 1, 1) := by decide +kernel
theorem dX4_readItem_63 : decode cX4_readItem 63 = .ok (.invokevirtual 46, 3) := by decide +kernel
theorem dX4_readItem_66 : decode cX4_readItem 66 = .ok (.goto 4, 3) := by decide +kernel
theorem dX4_readItem_69 : decode cX4_readItem 69 = .ok (.iconst 0, 1) := by decide +kernel
theorem dX4_readItem_70 : decode cX4_readItem 70 = .ok (.ireturn, 1) := by decide +kernel
theorem dX4_readYears_0 : decode cX4_readYears 0 = .ok (.aload_n 0, 1) := by decide +kernel
theorem dX4_readYears_1 : decode cX4_readYears 1 = .ok (.iload_n 1, 1) := by decide +kernel
theorem dX4_readYears_2 : decode cX4_readYears 2 = .ok (.iconst 1, 1) := by decide +kernel
theorem dX4_readYears_3 : decode cX4_readYears 3 = .ok (.iadd, 1) := by decide +kernel
theorem dX4_readYears_4 : decode cX4_readYears 4 = .ok (.invokevirtual 49, 3) := by decide +kernel
theorem dX4_readYears_7 : decode cX4_readYears 7 = .ok (.istore_n 2, 1) := by decide +kernel
theorem dX4_readYears_8 : decode cX4_readYears 8 = .ok (.iload_n 1, 1) := by decide +kernel
theorem dX4_readYears_9 : decode cX4_readYears 9 = .ok (.ifCond .ne 24, 3) := by decide +kernel
theorem dX4_readYears_12 : decode cX4_readYears 12 = .ok (.iload_n 2, 1) := by decide +kernel
theorem dX4_readYears_13 : decode cX4_readYears 13 = .ok (.iconst 4, 1) := by decide +kernel
theorem dX4_readYears_14 : decode cX4_readYears 14 = .ok (.if_icmp .lt 19, 3) := by decide +kernel
theorem dX4_readYears_17 : decode cX4_readYears 17 = .ok (.iload_n 2, 1) := by decide +kernel
theorem dX4_readYears_18 : decode cX4_readYears 18 = .ok (.bipush 16, 2) := by decide +kernel
theorem dX4_readYears_20 : decode cX4_readYears 20 = .ok (.if_icmp .gt 13, 3) := by decide +kernel
theorem dX4_readYears_23 : decode cX4_readYears 23 = .ok (.aload_n 0, 1) := by decide +kernel
theorem dX4_readYears_24 : decode cX4_readYears 24 = .ok (.iload_n 1, 1) := by decide +kernel
theorem dX4_readYears_25 : decode cX4_readYears 25 = .ok (.iconst 2, 1) := by decide +kernel
theorem dX4_readYears_26 : decode cX4_readYears 26 = .ok (.iadd, 1) := by decide +kernel
theorem dX4_readYears_27 : decode cX4_readYears 27 = .ok (.invokevirtual 52, 3) := by decide +kernel
theorem dX4_readYears_30 : decode cX4_readYears 30 = .ok (.ifCond .ne 5, 3) := by decide +kernel
theorem dX4_readYears_33 : decode cX4_readYears 33 = .ok (.iconst 0, 1) := by decide +kernel
theorem dX4_readYears_34 : decode cX4_readYears 34 = .ok (.ireturn, 1) := by decide +kernel
theorem dX4_readYears_35 : decode cX4_readYears 35 = .ok (.aload_n 0, 1) := by decide +kernel
theorem dX4_readYears_36 : decode cX4_readYears 36 = .ok (.getfield 18, 3) := by decide +kernel
theorem dX4_readYears_39 : decode cX4_readYears 39 = .ok (.iload_n 2, 1) := by decide +kernel
theorem dX4_readYears_40 : decode cX4_readYears 40 = .ok (.invokevirtual 56, 3) := by decide +kernel
theorem dX4_readYears_43 : decode cX4_readYears 43 = .ok (.iconst 3, 1) := by decide +kernel
theorem dX4_readYears_44 : decode cX4_readYears 44 = .ok (.ireturn, 1) := by decide +kernel
theorem dX4_readStation_0 : decode cX4_readStation 0 = .ok (.iload_n 1, 1) := by decide +kernel
theorem dX4_readStation_1 : decode cX4_readStation 1 = .ok (.iconst 3, 1) := by decide +kernel
theorem dX4_readStation_2 : decode cX4_readStation 2 = .ok (.iadd, 1) := by decide +kernel
theorem dX4_readStation_3 : decode cX4_readStation 3 = .ok (.istore_n 2, 1) := by decide +kernel
theorem dX4_readStation_4 : decode cX4_readStation 4 = .ok (.iload_n 2, 1) := by decide +kernel
theorem dX4_readStation_5 : decode cX4_readStation 5 = .ok (.aload_n 0, 1) := by decide +kernel
theorem dX4_readStation_6 : decode cX4_readStation 6 = .ok (.getfield 18, 3) := by decide +kernel
theorem dX4_readStation_9 : decode cX4_readStation 9 = .ok (.invokevirtual 36, 3) := by decide +kernel
theorem dX4_readStation_12 : decode cX4_readStation 12 = .ok (.iadd, 1) := by decide +kernel
theorem dX4_readStation_13 : decode cX4_readStation 13 = .ok (.istore_n 3, 1) := by decide +kernel
theorem dX4_readStation_14 : decode cX4_readStation 14 = .ok (.aload_n 0, 1) := by decide +kernel
theorem dX4_readStation_15 : decode cX4_readStation 15 = .ok (.iload_n 1, 1) := by decide +kernel
theorem dX4_readStation_16 : decode cX4_readStation 16 = .ok (.iconst 1, 1) := by decide +kernel
theorem dX4_readStation_17 : decode cX4_readStation 17 = .ok (.iadd, 1) := by decide +kernel
theorem dX4_readStation_18 : decode cX4_readStation 18 = .ok (.invokevirtual 49, 3) := by decide +kernel
theorem dX4_readStation_21 : decode cX4_readStation 21 = .ok (.istore 4, 2) := by decide +kernel
theorem dX4_readStation_23 : decode cX4_readStation 23 = .ok (.aload_n 0, 1) := by decide +kernel
theorem dX4_readStation_24 : decode cX4_readStation 24 = .ok (.iload_n 1, 1) := by decide +kernel
theorem dX4_readStation_25 : decode cX4_readStation 25 = .ok (.iconst 2, 1) := by decide +kernel
theorem dX4_readStation_26 : decode cX4_readStation 26 = .ok (.iadd, 1) := by decide +kernel
theorem dX4_readStation_27 : decode cX4_readStation 27 = .ok (.invokevirtual 49, 3) := by decide +kernel
theorem dX4_readStation_30 : decode cX4_readStation 30 = .ok (.istore 5, 2) := by decide +kernel
theorem dX4_readStation_32 : decode cX4_readStation 32 = .ok (.iload 4, 2) := by decide +kernel
theorem dX4_readStation_34 : decode cX4_readStation 34 = .ok (.ifCond .lt 16, 3) := by decide +kernel
theorem dX4_readStation_37 : decode cX4_readStation 37 = .ok (.iload 5, 2) := by decide +kernel
theorem dX4_readStation_39 : decode cX4_readStation 39 = .ok (.ifCond .lt 11, 3) := by decide +kernel
theorem dX4_readStation_42 : decode cX4_readStation 42 = .ok (.aload_n 0, 1) := by decide +kernel
theorem dX4_readStation_43 : decode cX4_readStation 43 = .ok (.iload_n 3, 1) := by decide +kernel
theorem dX4_readStation_44 : decode cX4_readStation 44 = .ok (.invokevirtual 52, 3) := by decide +kernel
theorem dX4_readStation_47 : decode cX4_readStation 47 = .ok (.ifCond .ne 5, 3) := by decide +kernel
theorem dX4_readStation_50 : decode cX4_readStation 50 = .ok (.iconst 0, 1) := by decide +kernel
theorem dX4_readStation_51 : decode cX4_readStation 51 = .ok (.ireturn, 1) := by decide +kernel
theorem dX4_readStation_52 : decode cX4_readStation 52 = .ok (.iload_n 2, 1) := by decide +kernel
theorem dX4_readStation_53 : decode cX4_readStation 53 = .ok (.istore 6, 2) := by decide +kernel
theorem dX4_readStation_55 : decode cX4_readStation 55 = .ok (.iload 6, 2) := by decide +kernel
theorem dX4_readStation_57 : decode cX4_readStation 57 = .ok (.iload_n 3, 1) := by decide +kernel
theorem dX4_readStation_58 : decode cX4_readStation 58 = .ok (.if_icmp .ge 32, 3) := by decide +kernel
theorem dX4_readStation_61 : decode cX4_readStation 61 = .ok (.aload_n 0, 1) := by decide +kernel
theorem dX4_readStation_62 : decode cX4_readStation 62 = .ok (.iload 6, 2) := by decide +kernel
theorem dX4_readStation_64 : decode cX4_readStation 64 = .ok (.invokevirtual 49, 3) := by decide +kernel
theorem dX4_readStation_67 : decode cX4_readStation 67 = .ok (.ifCond .ge 17, 3) := by decide +kernel
theorem dX4_readStation_70 : decode cX4_readStation 70 = .ok (.aload_n 0, 1) := by decide +kernel
theorem dX4_readStation_71 : decode cX4_readStation 71 = .ok (.getfield 9, 3) := by decide +kernel
theorem dX4_readStation_74 : decode cX4_readStation 74 = .ok (.iload 6, 2) := by decide +kernel
theorem dX4_readStation_76 : decode cX4_readStation 76 = .ok (.caload, 1) := by decide +kernel
theorem dX4_readStation_77 : decode cX4_readStation 77 = .ok (.bipush 46, 2) := by decide +kernel
theorem dX4_readStation_79 : decode cX4_readStation 79 = .ok (.if_icmp .eq 5, 3) := by decide +kernel
theorem dX4_readStation_82 : decode cX4_readStation 82 = .ok (.iconst 0, 1) := by decide +kernel
theorem dX4_readStation_83 : decode cX4_readStation 83 = .ok (.ireturn, 1) := by decide +kernel
theorem dX4_readStation_84 : decode cX4_readStation 84 = .ok (.iinc 6 1, 3) := by decide +kernel
theorem dX4_readStation_87 : decode cX4_readStation 87 = .ok (.goto (-32), 3) := by decide +kernel
theorem dX4_readStation_90 : decode cX4_readStation 90 = .ok (.aload_n 0, 1) := by decide +kernel
theorem dX4_readStation_91 : decode cX4_readStation 91 = .ok (.getfield 18, 3) := by decide +kernel
theorem dX4_readStation_94 : decode cX4_readStation 94 = .ok (.iload 4, 2) := by decide +kernel
theorem dX4_readStation_96 : decode cX4_readStation 96 = .ok (.iload 5, 2) := by decide +kernel
theorem dX4_readStation_98 : decode cX4_readStation 98 = .ok (.invokevirtual 60, 3) := by decide +kernel
theorem dX4_readStation_101 : decode cX4_readStation 101 = .ok (.ifCond .ne 5, 3) := by decide +kernel
theorem dX4_readStation_104 : decode cX4_readStation 104 = .ok (.iconst 0, 1) := by decide +kernel
theorem dX4_readStation_105 : decode cX4_readStation 105 = .ok (.ireturn, 1) := by decide +kernel
theorem dX4_readStation_106 : decode cX4_readStation 106 = .ok (.iload_n 2, 1) := by decide +kernel
theorem dX4_readStation_107 : decode cX4_readStation 107 = .ok (.istore 6, 2) := by decide +kernel
theorem dX4_readStation_109 : decode cX4_readStation 109 = .ok (.iload 6, 2) := by decide +kernel
theorem dX4_readStation_111 : decode cX4_readStation 111 = .ok (.iload_n 3, 1) := by decide +kernel
theorem dX4_readStation_112 : decode cX4_readStation 112 = .ok (.if_icmp .ge 52, 3) := by decide +kernel
theorem dX4_readStation_115 : decode cX4_readStation 115 = .ok (.aload_n 0, 1) := by decide +kernel
theorem dX4_readStation_116 : decode cX4_readStation 116 = .ok (.getfield 18, 3) := by decide +kernel
theorem dX4_readStation_119 : decode cX4_readStation 119 = .ok (.aload_n 0, 1) := by decide +kernel
theorem dX4_readStation_120 : decode cX4_readStation 120 = .ok (.getfield 18, 3) := by decide +kernel
theorem dX4_readStation_123 : decode cX4_readStation 123 = .ok (.invokevirtual 64, 3) := by decide +kernel
theorem dX4_readStation_126 : decode cX4_readStation 126 = .ok (.iconst 1, 1) := by decide +kernel
theorem dX4_readStation_127 : decode cX4_readStation 127 = .ok (.isub, 1) := by decide +kernel
theorem dX4_readStation_128 : decode cX4_readStation 128 = .ok (.iload 6, 2) := by decide +kernel
theorem dX4_readStation_130 : decode cX4_readStation 130 = .ok (.iload_n 2, 1) := by decide +kernel
theorem dX4_readStation_131 : decode cX4_readStation 131 = .ok (.isub, 1) := by decide +kernel
theorem dX4_readStation_132 : decode cX4_readStation 132 = .ok (.aload_n 0, 1) := by decide +kernel
theorem dX4_readStation_133 : decode cX4_readStation 133 = .ok (.getfield 9, 3) := by decide +kernel
theorem dX4_readStation_136 : decode cX4_readStation 136 = .ok (.iload 6, 2) := by decide +kernel
theorem dX4_readStation_138 : decode cX4_readStation 138 = .ok (.caload, 1) := by decide +kernel
theorem dX4_readStation_139 : decode cX4_readStation 139 = .ok (.bipush 46, 2) := by decide +kernel
theorem dX4_readStation_141 : decode cX4_readStation 141 = .ok (.if_icmp .ne 8, 3) := by decide +kernel
theorem dX4_readStation_144 : decode cX4_readStation 144 = .ok (.ldc 67, 2) := by decide +kernel
theorem dX4_readStation_146 : decode cX4_readStation 146 = .ok (.goto 9, 3) := by decide +kernel
theorem dX4_readStation_149 : decode cX4_readStation 149 = .ok (.aload_n 0, 1) := by decide +kernel
theorem dX4_readStation_150 : decode cX4_readStation 150 = .ok (.iload 6, 2) := by decide +kernel
theorem dX4_readStation_152 : decode cX4_readStation 152 = .ok (.invokevirtual 49, 3) := by decide +kernel
theorem dX4_readStation_155 : decode cX4_readStation 155 = .ok (.invokevirtual 68, 3) := by decide +kernel
theorem dX4_readStation_158 : decode cX4_readStation 158 = .ok (.iinc 6 1, 3) := by decide +kernel
theorem dX4_readStation_161 : decode cX4_readStation 161 = .ok (.goto (-52), 3) := by decide +kernel
theorem dX4_readStation_164 : decode cX4_readStation 164 = .ok (.iload_n 3, 1) := by decide +kernel
theorem dX4_readStation_165 : decode cX4_readStation 165 = .ok (.iconst 1, 1) := by decide +kernel
theorem dX4_readStation_166 : decode cX4_readStation 166 = .ok (.iadd, 1) := by decide +kernel
theorem dX4_readStation_167 : decode cX4_readStation 167 = .ok (.iload_n 1, 1) := by decide +kernel
theorem dX4_readStation_168 : decode cX4_readStation 168 = .ok (.isub, 1) := by decide +kernel
theorem dX4_readStation_169 : decode cX4_readStation 169 = .ok (.ireturn, 1) := by decide +kernel
theorem dX4_readPenalty_0 : decode cX4_readPenalty 0 = .ok (.aload_n 0, 1) := by decide +kernel
theorem dX4_readPenalty_1 : decode cX4_readPenalty 1 = .ok (.iload_n 1, 1) := by decide +kernel
theorem dX4_readPenalty_2 : decode cX4_readPenalty 2 = .ok (.iconst 1, 1) := by decide +kernel
theorem dX4_readPenalty_3 : decode cX4_readPenalty 3 = .ok (.iadd, 1) := by decide +kernel
theorem dX4_readPenalty_4 : decode cX4_readPenalty 4 = .ok (.invokevirtual 49, 3) := by decide +kernel
theorem dX4_readPenalty_7 : decode cX4_readPenalty 7 = .ok (.istore_n 2, 1) := by decide +kernel
theorem dX4_readPenalty_8 : decode cX4_readPenalty 8 = .ok (.aload_n 0, 1) := by decide +kernel
theorem dX4_readPenalty_9 : decode cX4_readPenalty 9 = .ok (.iload_n 1, 1) := by decide +kernel
theorem dX4_readPenalty_10 : decode cX4_readPenalty 10 = .ok (.iconst 2, 1) := by decide +kernel
theorem dX4_readPenalty_11 : decode cX4_readPenalty 11 = .ok (.iadd, 1) := by decide +kernel
theorem dX4_readPenalty_12 : decode cX4_readPenalty 12 = .ok (.invokevirtual 49, 3) := by decide +kernel
theorem dX4_readPenalty_15 : decode cX4_readPenalty 15 = .ok (.istore_n 3, 1) := by decide +kernel
theorem dX4_readPenalty_16 : decode cX4_readPenalty 16 = .ok (.iload_n 2, 1) := by decide +kernel
theorem dX4_readPenalty_17 : decode cX4_readPenalty 17 = .ok (.ifCond .lt 29, 3) := by decide +kernel
theorem dX4_readPenalty_20 : decode cX4_readPenalty 20 = .ok (.iload_n 2, 1) := by decide +kernel
theorem dX4_readPenalty_21 : decode cX4_readPenalty 21 = .ok (.bipush 9, 2) := by decide +kernel
theorem dX4_readPenalty_23 : decode cX4_readPenalty 23 = .ok (.if_icmp .gt 23, 3) := by decide +kernel
theorem dX4_readPenalty_26 : decode cX4_readPenalty 26 = .ok (.iload_n 3, 1) := by decide +kernel
theorem dX4_readPenalty_27 : decode cX4_readPenalty 27 = .ok (.ifCond .lt 19, 3) := by decide +kernel
theorem dX4_readPenalty_30 : decode cX4_readPenalty 30 = .ok (.iload_n 3, 1) := by decide +kernel
theorem dX4_readPenalty_31 : decode cX4_readPenalty 31 = .ok (.bipush 9, 2) := by decide +kernel
theorem dX4_readPenalty_33 : decode cX4_readPenalty 33 = .ok (.if_icmp .gt 13, 3) := by decide +kernel
theorem dX4_readPenalty_36 : decode cX4_readPenalty 36 = .ok (.aload_n 0, 1) := by decide +kernel
theorem dX4_readPenalty_37 : decode cX4_readPenalty 37 = .ok (.iload_n 1, 1) := by decide +kernel
theorem dX4_readPenalty_38 : decode cX4_readPenalty 38 = .ok (.iconst 3, 1) := by decide +kernel
theorem dX4_readPenalty_39 : decode cX4_readPenalty 39 = .ok (.iadd, 1) := by decide +kernel
theorem dX4_readPenalty_40 : decode cX4_readPenalty 40 = .ok (.invokevirtual 52, 3) := by decide +kernel
theorem dX4_readPenalty_43 : decode cX4_readPenalty 43 = .ok (.ifCond .ne 5, 3) := by decide +kernel
theorem dX4_readPenalty_46 : decode cX4_readPenalty 46 = .ok (.iconst 0, 1) := by decide +kernel
theorem dX4_readPenalty_47 : decode cX4_readPenalty 47 = .ok (.ireturn, 1) := by decide +kernel
theorem dX4_readPenalty_48 : decode cX4_readPenalty 48 = .ok (.aload_n 0, 1) := by decide +kernel
theorem dX4_readPenalty_49 : decode cX4_readPenalty 49 = .ok (.getfield 18, 3) := by decide +kernel
theorem dX4_readPenalty_52 : decode cX4_readPenalty 52 = .ok (.bipush 10, 2) := by decide +kernel
theorem dX4_readPenalty_54 : decode cX4_readPenalty 54 = .ok (.iload_n 2, 1) := by decide +kernel
theorem dX4_readPenalty_55 : decode cX4_readPenalty 55 = .ok (.imul, 1) := by decide +kernel
theorem dX4_readPenalty_56 : decode cX4_readPenalty 56 = .ok (.iload_n 3, 1) := by decide +kernel
theorem dX4_readPenalty_57 : decode cX4_readPenalty 57 = .ok (.iadd, 1) := by decide +kernel
theorem dX4_readPenalty_58 : decode cX4_readPenalty 58 = .ok (.invokevirtual 72, 3) := by decide +kernel
theorem dX4_readPenalty_61 : decode cX4_readPenalty 61 = .ok (.iconst 4, 1) := by decide +kernel
theorem dX4_readPenalty_62 : decode cX4_readPenalty 62 = .ok (.ireturn, 1) := by decide +kernel
theorem dX4_readRules_0 : decode cX4_readRules 0 = .ok (.iload_n 1, 1) := by decide +kernel
theorem dX4_readRules_1 : decode cX4_readRules 1 = .ok (.iconst 1, 1) := by decide +kernel
theorem dX4_readRules_2 : decode cX4_readRules 2 = .ok (.iadd, 1) := by decide +kernel
theorem dX4_readRules_3 : decode cX4_readRules 3 = .ok (.iconst 4, 1) := by decide +kernel
theorem dX4_readRules_4 : decode cX4_readRules 4 = .ok (.iadd, 1) := by decide +kernel
theorem dX4_readRules_5 : decode cX4_readRules 5 = .ok (.istore_n 2, 1) := by decide +kernel
theorem dX4_readRules_6 : decode cX4_readRules 6 = .ok (.aload_n 0, 1) := by decide +kernel
theorem dX4_readRules_7 : decode cX4_readRules 7 = .ok (.iload_n 2, 1) := by decide +kernel
theorem dX4_readRules_8 : decode cX4_readRules 8 = .ok (.invokevirtual 52, 3) := by decide +kernel
theorem dX4_readRules_11 : decode cX4_readRules 11 = .ok (.ifCond .ne 5, 3) := by decide +kernel
theorem dX4_readRules_14 : decode cX4_readRules 14 = .ok (.iconst 0, 1) := by decide +kernel
theorem dX4_readRules_15 : decode cX4_readRules 15 = .ok (.ireturn, 1) := by decide +kernel
theorem dX4_readRules_16 : decode cX4_readRules 16 = .ok (.iconst 0, 1) := by decide +kernel
theorem dX4_readRules_17 : decode cX4_readRules 17 = .ok (.istore_n 3, 1) := by decide +kernel
theorem dX4_readRules_18 : decode cX4_readRules 18 = .ok (.iload_n 3, 1) := by decide +kernel
theorem dX4_readRules_19 : decode cX4_readRules 19 = .ok (.iconst 4, 1) := by decide +kernel
theorem dX4_readRules_20 : decode cX4_readRules 20 = .ok (.if_icmp .ge 27, 3) := by decide +kernel
theorem dX4_readRules_23 : decode cX4_readRules 23 = .ok (.iload_n 3, 1) := by decide +kernel
theorem dX4_readRules_24 : decode cX4_readRules 24 = .ok (.aload_n 0, 1) := by decide +kernel
theorem dX4_readRules_25 : decode cX4_readRules 25 = .ok (.iload_n 1, 1) := by decide +kernel
theorem dX4_readRules_26 : decode cX4_readRules 26 = .ok (.iconst 1, 1) := by decide +kernel
theorem dX4_readRules_27 : decode cX4_readRules 27 = .ok (.iadd, 1) := by decide +kernel
theorem dX4_readRules_28 : decode cX4_readRules 28 = .ok (.iload_n 3, 1) := by decide +kernel
theorem dX4_readRules_29 : decode cX4_readRules 29 = .ok (.iadd, 1) := by decide +kernel
theorem dX4_readRules_30 : decode cX4_readRules 30 = .ok (.invokevirtual 49, 3) := by decide +kernel
theorem dX4_readRules_33 : decode cX4_readRules 33 = .ok (.invokestatic 75, 3) := by decide +kernel
theorem dX4_readRules_36 : decode cX4_readRules 36 = .ok (.ifCond .ne 5, 3) := by decide +kernel
theorem dX4_readRules_39 : decode cX4_readRules 39 = .ok (.iconst 0, 1) := by decide +kernel
theorem dX4_readRules_40 : decode cX4_readRules 40 = .ok (.ireturn, 1) := by decide +kernel
theorem dX4_readRules_41 : decode cX4_readRules 41 = .ok (.iinc 3 1, 3) := by decide +kernel
theorem dX4_readRules_44 : decode cX4_readRules 44 = .ok (.goto (-26), 3) := by decide +kernel
theorem dX4_readRules_47 : decode cX4_readRules 47 = .ok (.iconst 0, 1) := by decide +kernel
theorem dX4_readRules_48 : decode cX4_readRules 48 = .ok (.istore_n 3, 1) := by decide +kernel
theorem dX4_readRules_49 : decode cX4_readRules 49 = .ok (.iload_n 3, 1) := by decide +kernel
theorem dX4_readRules_50 : decode cX4_readRules 50 = .ok (.iconst 4, 1) := by decide +kernel
theorem dX4_readRules_51 : decode cX4_readRules 51 = .ok (.if_icmp .ge 26, 3) := by decide +kernel
theorem dX4_readRules_54 : decode cX4_readRules 54 = .ok (.aload_n 0, 1) := by decide +kernel
theorem dX4_readRules_55 : decode cX4_readRules 55 = .ok (.getfield 18, 3) := by decide +kernel
theorem dX4_readRules_58 : decode cX4_readRules 58 = .ok (.iload_n 3, 1) := by decide +kernel
theorem dX4_readRules_59 : decode cX4_readRules 59 = .ok (.aload_n 0, 1) := by decide +kernel
theorem dX4_readRules_60 : decode cX4_readRules 60 = .ok (.iload_n 1, 1) := by decide +kernel
theorem dX4_readRules_61 : decode cX4_readRules 61 = .ok (.iconst 1, 1) := by decide +kernel
theorem dX4_readRules_62 : decode cX4_readRules 62 = .ok (.iadd, 1) := by decide +kernel
theorem dX4_readRules_63 : decode cX4_readRules 63 = .ok (.iload_n 3, 1) := by decide +kernel
theorem dX4_readRules_64 : decode cX4_readRules 64 = .ok (.iadd, 1) := by decide +kernel
theorem dX4_readRules_65 : decode cX4_readRules 65 = .ok (.invokevirtual 49, 3) := by decide +kernel
theorem dX4_readRules_68 : decode cX4_readRules 68 = .ok (.invokevirtual 78, 3) := by decide +kernel
theorem dX4_readRules_71 : decode cX4_readRules 71 = .ok (.iinc 3 1, 3) := by decide +kernel
theorem dX4_readRules_74 : decode cX4_readRules 74 = .ok (.goto (-25), 3) := by decide +kernel
theorem dX4_readRules_77 : decode cX4_readRules 77 = .ok (.iload_n 2, 1) := by decide +kernel
theorem dX4_readRules_78 : decode cX4_readRules 78 = .ok (.iconst 1, 1) := by decide +kernel
theorem dX4_readRules_79 : decode cX4_readRules 79 = .ok (.iadd, 1) := by decide +kernel
theorem dX4_readRules_80 : decode cX4_readRules 80 = .ok (.iload_n 1, 1) := by decide +kernel
theorem dX4_readRules_81 : decode cX4_readRules 81 = .ok (.isub, 1) := by decide +kernel
theorem dX4_readRules_82 : decode cX4_readRules 82 = .ok (.ireturn, 1) := by decide +kernel
theorem dX4_endsAt_0 : decode cX4_endsAt 0 = .ok (.iload_n 1, 1) := by decide +kernel
theorem dX4_endsAt_1 : decode cX4_endsAt 1 = .ok (.aload_n 0, 1) := by decide +kernel
theorem dX4_endsAt_2 : decode cX4_endsAt 2 = .ok (.getfield 22, 3) := by decide +kernel
theorem dX4_endsAt_5 : decode cX4_endsAt 5 = .ok (.if_icmp .ge 18, 3) := by decide +kernel
theorem dX4_endsAt_8 : decode cX4_endsAt 8 = .ok (.aload_n 0, 1) := by decide +kernel
theorem dX4_endsAt_9 : decode cX4_endsAt 9 = .ok (.getfield 9, 3) := by decide +kernel
theorem dX4_endsAt_12 : decode cX4_endsAt 12 = .ok (.iload_n 1, 1) := by decide +kernel
theorem dX4_endsAt_13 : decode cX4_endsAt 13 = .ok (.caload, 1) := by decide +kernel
theorem dX4_endsAt_14 : decode cX4_endsAt 14 = .ok (.bipush 59, 2) := by decide +kernel
theorem dX4_endsAt_16 : decode cX4_endsAt 16 = .ok (.if_icmp .ne 7, 3) := by decide +kernel
theorem dX4_endsAt_19 : decode cX4_endsAt 19 = .ok (.iconst 1, 1) := by decide +kernel
theorem dX4_endsAt_20 : decode cX4_endsAt 20 = .ok (.goto 4, 3) := by decide +kernel
theorem dX4_endsAt_23 : decode cX4_endsAt 23 = .ok (.iconst 0, 1) := by decide +kernel
theorem dX4_endsAt_24 : decode cX4_endsAt 24 = .ok (.ireturn, 1) := by decide +kernel
theorem dX4_signAt_0 : decode cX4_signAt 0 = .ok (.iload_n 1, 1) := by decide +kernel
theorem dX4_signAt_1 : decode cX4_signAt 1 = .ok (.aload_n 0, 1) := by decide +kernel
theorem dX4_signAt_2 : decode cX4_signAt 2 = .ok (.getfield 22, 3) := by decide +kernel
theorem dX4_signAt_5 : decode cX4_signAt 5 = .ok (.if_icmp .lt 5, 3) := by decide +kernel
theorem dX4_signAt_8 : decode cX4_signAt 8 = .ok (.iconst (-1), 1) := by decide +kernel
theorem dX4_signAt_9 : decode cX4_signAt 9 = .ok (.ireturn, 1) := by decide +kernel
theorem dX4_signAt_10 : decode cX4_signAt 10 = .ok (.aload_n 0, 1) := by decide +kernel
theorem dX4_signAt_11 : decode cX4_signAt 11 = .ok (.getfield 9, 3) := by decide +kernel
theorem dX4_signAt_14 : decode cX4_signAt 14 = .ok (.iload_n 1, 1) := by decide +kernel
theorem dX4_signAt_15 : decode cX4_signAt 15 = .ok (.caload, 1) := by decide +kernel
theorem dX4_signAt_16 : decode cX4_signAt 16 = .ok (.istore_n 2, 1) := by decide +kernel
theorem dX4_signAt_17 : decode cX4_signAt 17 = .ok (.iload_n 2, 1) := by decide +kernel
theorem dX4_signAt_18 : decode cX4_signAt 18 = .ok (.bipush 48, 2) := by decide +kernel
theorem dX4_signAt_20 : decode cX4_signAt 20 = .ok (.if_icmp .lt 14, 3) := by decide +kernel
theorem dX4_signAt_23 : decode cX4_signAt 23 = .ok (.iload_n 2, 1) := by decide +kernel
theorem dX4_signAt_24 : decode cX4_signAt 24 = .ok (.bipush 57, 2) := by decide +kernel
theorem dX4_signAt_26 : decode cX4_signAt 26 = .ok (.if_icmp .gt 8, 3) := by decide +kernel
theorem dX4_signAt_29 : decode cX4_signAt 29 = .ok (.iload_n 2, 1) := by decide +kernel
theorem dX4_signAt_30 : decode cX4_signAt 30 = .ok (.bipush 48, 2) := by decide +kernel
theorem dX4_signAt_32 : decode cX4_signAt 32 = .ok (.isub, 1) := by decide +kernel
theorem dX4_signAt_33 : decode cX4_signAt 33 = .ok (.ireturn, 1) := by decide +kernel
theorem dX4_signAt_34 : decode cX4_signAt 34 = .ok (.iload_n 2, 1) := by decide +kernel
theorem dX4_signAt_35 : decode cX4_signAt 35 = .ok (.bipush 97, 2) := by decide +kernel
theorem dX4_signAt_37 : decode cX4_signAt 37 = .ok (.if_icmp .lt 19, 3) := by decide +kernel
theorem dX4_signAt_40 : decode cX4_signAt 40 = .ok (.iload_n 2, 1) := by decide +kernel
theorem dX4_signAt_41 : decode cX4_signAt 41 = .ok (.bipush 115, 2) := by decide +kernel
theorem dX4_signAt_43 : decode cX4_signAt 43 = .ok (.if_icmp .gt 13, 3) := by decide +kernel
theorem dX4_signAt_46 : decode cX4_signAt 46 = .ok (.iload_n 2, 1) := by decide +kernel
theorem dX4_signAt_47 : decode cX4_signAt 47 = .ok (.bipush 97, 2) := by decide +kernel
theorem dX4_signAt_49 : decode cX4_signAt 49 = .ok (.isub, 1) := by decide +kernel
theorem dX4_signAt_50 : decode cX4_signAt 50 = .ok (.bipush 10, 2) := by decide +kernel
theorem dX4_signAt_52 : decode cX4_signAt 52 = .ok (.iadd, 1) := by decide +kernel
theorem dX4_signAt_53 : decode cX4_signAt 53 = .ok (.goto 4, 3) := by decide +kernel
theorem dX4_signAt_56 : decode cX4_signAt 56 = .ok (.iconst (-1), 1) := by decide +kernel
theorem dX4_signAt_57 : decode cX4_signAt 57 = .ok (.ireturn, 1) := by decide +kernel
theorem dX5_init_0 : decode cX5_init 0 = .ok (.aload_n 0, 1) := by decide +kernel
theorem dX5_init_1 : decode cX5_init 1 = .ok (.invokespecial 3, 3) := by decide +kernel
theorem dX5_init_4 : decode cX5_init 4 = .ok (.aload_n 0, 1) := by decide +kernel
theorem dX5_init_5 : decode cX5_init 5 = .ok (.bipush 17, 2) := by decide +kernel
theorem dX5_init_7 : decode cX5_init 7 = .ok (.newarray .long, 2) := by decide +kernel
theorem dX5_init_9 : decode cX5_init 9 = .ok (.putfield 9, 3) := by decide +kernel
theorem dX5_init_12 : decode cX5_init 12 = .ok (.aload_n 0, 1) := by decide +kernel
theorem dX5_init_13 : decode cX5_init 13 = .ok (.bipush 17, 2) := by decide +kernel
theorem dX5_init_15 : decode cX5_init 15 = .ok (.newarray .int, 2) := by decide +kernel
theorem dX5_init_17 : decode cX5_init 17 = .ok (.putfield 15, 3) := by decide +kernel
theorem dX5_init_20 : decode cX5_init 20 = .ok (.aload_n 0, 1) := by decide +kernel
theorem dX5_init_21 : decode cX5_init 21 = .ok (.bipush 17, 2) := by decide +kernel
theorem dX5_init_23 : decode cX5_init 23 = .ok (.newarray .int, 2) := by decide +kernel
theorem dX5_init_25 : decode cX5_init 25 = .ok (.putfield 19, 3) := by decide +kernel
theorem dX5_init_28 : decode cX5_init 28 = .ok (.aload_n 0, 1) := by decide +kernel
theorem dX5_init_29 : decode cX5_init 29 = .ok (.bipush 17, 2) := by decide +kernel
theorem dX5_init_31 : decode cX5_init 31 = .ok (.newarray .long, 2) := by decide +kernel
theorem dX5_init_33 : decode cX5_init 33 = .ok (.putfield 22, 3) := by decide +kernel
theorem dX5_init_36 : decode cX5_init 36 = .ok (.aload_n 0, 1) := by decide +kernel
theorem dX5_init_37 : decode cX5_init 37 = .ok (.bipush 18, 2) := by decide +kernel
theorem dX5_init_39 : decode cX5_init 39 = .ok (.newarray .int, 2) := by decide +kernel
theorem dX5_init_41 : decode cX5_init 41 = .ok (.putfield 25, 3) := by decide +kernel
theorem dX5_init_44 : decode cX5_init 44 = .ok (.aload_n 0, 1) := by decide +kernel
theorem dX5_init_45 : decode cX5_init 45 = .ok (.aload_n 1, 1) := by decide +kernel
theorem dX5_init_46 : decode cX5_init 46 = .ok (.putfield 28, 3) := by decide +kernel
theorem dX5_init_49 : decode cX5_init 49 = .ok (.return_, 1) := by decide +kernel
theorem dX5_fit_0 : decode cX5_fit 0 = .ok (.aload_n 0, 1) := by decide +kernel
theorem dX5_fit_1 : decode cX5_fit 1 = .ok (.getfield 28, 3) := by decide +kernel
theorem dX5_fit_4 : decode cX5_fit 4 = .ok (.invokevirtual 32, 3) := by decide +kernel
theorem dX5_fit_7 : decode cX5_fit 7 = .ok (.istore_n 3, 1) := by decide +kernel
theorem dX5_fit_8 : decode cX5_fit 8 = .ok (.ldc2_w 38, 3) := by decide +kernel
theorem dX5_fit_11 : decode cX5_fit 11 = .ok (.iload_n 2, 1) := by decide +kernel
theorem dX5_fit_12 : decode cX5_fit 12 = .ok (.i2l, 1) := by decide +kernel
theorem dX5_fit_13 : decode cX5_fit 13 = .ok (.lmul, 1) := by decide +kernel
theorem dX5_fit_14 : decode cX5_fit 14 = .ok (.lstore 4, 2) := by decide +kernel
theorem dX5_fit_16 : decode cX5_fit 16 = .ok (.aload_n 0, 1) := by decide +kernel
theorem dX5_fit_17 : decode cX5_fit 17 = .ok (.getfield 9, 3) := by decide +kernel
theorem dX5_fit_20 : decode cX5_fit 20 = .ok (.iconst 0, 1) := by decide +kernel
theorem dX5_fit_21 : decode cX5_fit 21 = .ok (.lconst 0, 1) := by decide +kernel
theorem dX5_fit_22 : decode cX5_fit 22 = .ok (.lastore, 1) := by decide +kernel
theorem dX5_fit_23 : decode cX5_fit 23 = .ok (.aload_n 0, 1) := by decide +kernel
theorem dX5_fit_24 : decode cX5_fit 24 = .ok (.getfield 15, 3) := by decide +kernel
theorem dX5_fit_27 : decode cX5_fit 27 = .ok (.iconst 0, 1) := by decide +kernel
theorem dX5_fit_28 : decode cX5_fit 28 = .ok (.iconst 0, 1) := by decide +kernel
theorem dX5_fit_29 : decode cX5_fit 29 = .ok (.iastore, 1) := by decide +kernel
theorem dX5_fit_30 : decode cX5_fit 30 = .ok (.aload_n 0, 1) := by decide +kernel
theorem dX5_fit_31 : decode cX5_fit 31 = .ok (.getfield 19, 3) := by decide +kernel
theorem dX5_fit_34 : decode cX5_fit 34 = .ok (.iconst 0, 1) := by decide +kernel
theorem dX5_fit_35 : decode cX5_fit 35 = .ok (.iload_n 3, 1) := by decide +kernel
theorem dX5_fit_36 : decode cX5_fit 36 = .ok (.iastore, 1) := by decide +kernel
theorem dX5_fit_37 : decode cX5_fit 37 = .ok (.iload_n 3, 1) := by decide +kernel
theorem dX5_fit_38 : decode cX5_fit 38 = .ok (.iconst 1, 1) := by decide +kernel
theorem dX5_fit_39 : decode cX5_fit 39 = .ok (.isub, 1) := by decide +kernel
theorem dX5_fit_40 : decode cX5_fit 40 = .ok (.istore 6, 2) := by decide +kernel
theorem dX5_fit_42 : decode cX5_fit 42 = .ok (.iload 6, 2) := by decide +kernel
theorem dX5_fit_44 : decode cX5_fit 44 = .ok (.ifCond .lt 18, 3) := by decide +kernel
theorem dX5_fit_47 : decode cX5_fit 47 = .ok (.aload_n 0, 1) := by decide +kernel
theorem dX5_fit_48 : decode cX5_fit 48 = .ok (.iload 6, 2) := by decide +kernel
theorem dX5_fit_50 : decode cX5_fit 50 = .ok (.iload_n 1, 1) := by decide +kernel
theorem dX5_fit_51 : decode cX5_fit 51 = .ok (.lload 4, 2) := by decide +kernel
theorem dX5_fit_53 : decode cX5_fit 53 = .ok (.invokevirtual 40, 3) := by decide +kernel
theorem dX5_fit_56 : decode cX5_fit 56 = .ok (.iinc 6 (-1), 3) := by decide +kernel
theorem dX5_fit_59 : decode cX5_fit 59 = .ok (.goto (-17), 3) := by decide +kernel
theorem dX5_fit_62 : decode cX5_fit 62 = .ok (.aload_n 0, 1) := by decide +kernel
theorem dX5_fit_63 : decode cX5_fit 63 = .ok (.invokevirtual 44, 3) := by decide +kernel
theorem dX5_fit_66 : decode cX5_fit 66 = .ok (.return_, 1) := by decide +kernel
theorem dX5_fitFrom_0 : decode cX5_fitFrom 0 = .ok (.aload_n 0, 1) := by decide +kernel
theorem dX5_fitFrom_1 : decode cX5_fitFrom 1 = .ok (.getfield 28, 3) := by decide +kernel
theorem dX5_fitFrom_4 : decode cX5_fitFrom 4 = .ok (.invokevirtual 32, 3) := by decide +kernel
theorem dX5_fitFrom_7 : decode cX5_fitFrom 7 = .ok (.istore 5, 2) := by decide +kernel
theorem dX5_fitFrom_9 : decode cX5_fitFrom 9 = .ok (.aload_n 0, 1) := by decide +kernel
theorem dX5_fitFrom_10 : decode cX5_fitFrom 10 = .ok (.getfield 9, 3) := by decide +kernel
theorem dX5_fitFrom_13 : decode cX5_fitFrom 13 = .ok (.iload_n 1, 1) := by decide +kernel
theorem dX5_fitFrom_14 : decode cX5_fitFrom 14 = .ok (.aload_n 0, 1) := by decide +kernel
theorem dX5_fitFrom_15 : decode cX5_fitFrom 15 = .ok (.getfield 28, 3) := by decide +kernel
theorem dX5_fitFrom_18 : decode cX5_fitFrom 18 = .ok (.iload_n 1, 1) := by decide +kernel
theorem dX5_fitFrom_19 : decode cX5_fitFrom 19 = .ok (.iload 5, 2) := by decide +kernel
theorem dX5_fitFrom_21 : decode cX5_fitFrom 21 = .ok (.invokevirtual 47, 3) := by decide +kernel
theorem dX5_fitFrom_24 : decode cX5_fitFrom 24 = .ok (.lastore, 1) := by decide +kernel
theorem dX5_fitFrom_25 : decode cX5_fitFrom 25 = .ok (.aload_n 0, 1) := by decide +kernel
theorem dX5_fitFrom_26 : decode cX5_fitFrom 26 = .ok (.getfield 15, 3) := by decide +kernel
theorem dX5_fitFrom_29 : decode cX5_fitFrom 29 = .ok (.iload_n 1, 1) := by decide +kernel
theorem dX5_fitFrom_30 : decode cX5_fitFrom 30 = .ok (.iconst 0, 1) := by decide +kernel
theorem dX5_fitFrom_31 : decode cX5_fitFrom 31 = .ok (.iastore, 1) := by decide +kernel
theorem dX5_fitFrom_32 : decode cX5_fitFrom 32 = .ok (.aload_n 0, 1) := by decide +kernel
theorem dX5_fitFrom_33 : decode cX5_fitFrom 33 = .ok (.getfield 19, 3) := by decide +kernel
theorem dX5_fitFrom_36 : decode cX5_fitFrom 36 = .ok (.iload_n 1, 1) := by decide +kernel
theorem dX5_fitFrom_37 : decode cX5_fitFrom 37 = .ok (.iload 5, 2) := by decide +kernel
theorem dX5_fitFrom_39 : decode cX5_fitFrom 39 = .ok (.iastore, 1) := by decide +kernel
theorem dX5_fitFrom_40 : decode cX5_fitFrom 40 = .ok (.iload_n 1, 1) := by decide +kernel
theorem dX5_fitFrom_41 : decode cX5_fitFrom 41 = .ok (.iload_n 2, 1) := by decide +kernel
theorem dX5_fitFrom_42 : decode cX5_fitFrom 42 = .ok (.iadd, 1) := by decide +kernel
theorem dX5_fitFrom_43 : decode cX5_fitFrom 43 = .ok (.istore 6, 2) := by decide +kernel
theorem dX5_fitFrom_45 : decode cX5_fitFrom 45 = .ok (.iload 6, 2) := by decide +kernel
theorem dX5_fitFrom_47 : decode cX5_fitFrom 47 = .ok (.iload 5, 2) := by decide +kernel
theorem dX5_fitFrom_49 : decode cX5_fitFrom 49 = .ok (.iload_n 2, 1) := by decide +kernel
theorem dX5_fitFrom_50 : decode cX5_fitFrom 50 = .ok (.isub, 1) := by decide +kernel
theorem dX5_fitFrom_51 : decode cX5_fitFrom 51 = .ok (.if_icmp .gt 101, 3) := by decide +kernel
theorem dX5_fitFrom_54 : decode cX5_fitFrom 54 = .ok (.aload_n 0, 1) := by decide +kernel
theorem dX5_fitFrom_55 : decode cX5_fitFrom 55 = .ok (.getfield 28, 3) := by decide +kernel
theorem dX5_fitFrom_58 : decode cX5_fitFrom 58 = .ok (.iload_n 1, 1) := by decide +kernel
theorem dX5_fitFrom_59 : decode cX5_fitFrom 59 = .ok (.iload 6, 2) := by decide +kernel
theorem dX5_fitFrom_61 : decode cX5_fitFrom 61 = .ok (.invokevirtual 47, 3) := by decide +kernel
theorem dX5_fitFrom_64 : decode cX5_fitFrom 64 = .ok (.lload_n 3, 1) := by decide +kernel
theorem dX5_fitFrom_65 : decode cX5_fitFrom 65 = .ok (.ladd, 1) := by decide +kernel
theorem dX5_fitFrom_66 : decode cX5_fitFrom 66 = .ok (.aload_n 0, 1) := by decide +kernel
theorem dX5_fitFrom_67 : decode cX5_fitFrom 67 = .ok (.getfield 9, 3) := by decide +kernel
theorem dX5_fitFrom_70 : decode cX5_fitFrom 70 = .ok (.iload 6, 2) := by decide +kernel
theorem dX5_fitFrom_72 : decode cX5_fitFrom 72 = .ok (.laload, 1) := by decide +kernel
theorem dX5_fitFrom_73 : decode cX5_fitFrom 73 = .ok (.ladd, 1) := by decide +kernel
theorem dX5_fitFrom_74 : decode cX5_fitFrom 74 = .ok (.lstore 7, 2) := by decide +kernel
theorem dX5_fitFrom_76 : decode cX5_fitFrom 76 = .ok (.aload_n 0, 1) := by decide +kernel
theorem dX5_fitFrom_77 : decode cX5_fitFrom 77 = .ok (.getfield 15, 3) := by decide +kernel
theorem dX5_fitFrom_80 : decode cX5_fitFrom 80 = .ok (.iload 6, 2) := by decide +kernel
theorem dX5_fitFrom_82 : decode cX5_fitFrom 82 = .ok (.iaload, 1) := by decide +kernel
theorem dX5_fitFrom_83 : decode cX5_fitFrom 83 = .ok (.iconst 1, 1) := by decide +kernel
theorem dX5_fitFrom_84 : decode cX5_fitFrom 84 = .ok (.iadd, 1) := by decide +kernel
theorem dX5_fitFrom_85 : decode cX5_fitFrom 85 = .ok (.istore 9, 2) := by decide +kernel
theorem dX5_fitFrom_87 : decode cX5_fitFrom 87 = .ok (.lload 7, 2) := by decide +kernel
theorem dX5_fitFrom_89 : decode cX5_fitFrom 89 = .ok (.aload_n 0, 1) := by decide +kernel
theorem dX5_fitFrom_90 : decode cX5_fitFrom 90 = .ok (.getfield 9, 3) := by decide +kernel
theorem dX5_fitFrom_93 : decode cX5_fitFrom 93 = .ok (.iload_n 1, 1) := by decide +kernel
theorem dX5_fitFrom_94 : decode cX5_fitFrom 94 = .ok (.laload, 1) := by decide +kernel
theorem dX5_fitFrom_95 : decode cX5_fitFrom 95 = .ok (.lcmp, 1) := by decide +kernel
theorem dX5_fitFrom_96 : decode cX5_fitFrom 96 = .ok (.ifCond .lt 26, 3) := by decide +kernel
theorem dX5_fitFrom_99 : decode cX5_fitFrom 99 = .ok (.lload 7, 2) := by decide +kernel
theorem dX5_fitFrom_101 : decode cX5_fitFrom 101 = .ok (.aload_n 0, 1) := by decide +kernel
theorem dX5_fitFrom_102 : decode cX5_fitFrom 102 = .ok (.getfield 9, 3) := by decide +kernel
theorem dX5_fitFrom_105 : decode cX5_fitFrom 105 = .ok (.iload_n 1, 1) := by decide +kernel
theorem dX5_fitFrom_106 : decode cX5_fitFrom 106 = .ok (.laload, 1) := by decide +kernel
theorem dX5_fitFrom_107 : decode cX5_fitFrom 107 = .ok (.lcmp, 1) := by decide +kernel
theorem dX5_fitFrom_108 : decode cX5_fitFrom 108 = .ok (.ifCond .ne 38, 3) := by decide +kernel
theorem dX5_fitFrom_111 : decode cX5_fitFrom 111 = .ok (.iload 9, 2) := by decide +kernel
theorem dX5_fitFrom_113 : decode cX5_fitFrom 113 = .ok (.aload_n 0, 1) := by decide +kernel
theorem dX5_fitFrom_114 : decode cX5_fitFrom 114 = .ok (.getfield 15, 3) := by decide +kernel
theorem dX5_fitFrom_117 : decode cX5_fitFrom 117 = .ok (.iload_n 1, 1) := by decide +kernel
theorem dX5_fitFrom_118 : decode cX5_fitFrom 118 = .ok (.iaload, 1) := by decide +kernel
theorem dX5_fitFrom_119 : decode cX5_fitFrom 119 = .ok (.if_icmp .ge 27, 3) := by decide +kernel
theorem dX5_fitFrom_122 : decode cX5_fitFrom 122 = .ok (.aload_n 0, 1) := by decide +kernel
theorem dX5_fitFrom_123 : decode cX5_fitFrom 123 = .ok (.getfield 9, 3) := by decide +kernel
theorem dX5_fitFrom_126 : decode cX5_fitFrom 126 = .ok (.iload_n 1, 1) := by decide +kernel
theorem dX5_fitFrom_127 : decode cX5_fitFrom 127 = .ok (.lload 7, 2) := by decide +kernel
theorem dX5_fitFrom_129 : decode cX5_fitFrom 129 = .ok (.lastore, 1) := by decide +kernel
theorem dX5_fitFrom_130 : decode cX5_fitFrom 130 = .ok (.aload_n 0, 1) := by decide +kernel
theorem dX5_fitFrom_131 : decode cX5_fitFrom 131 = .ok (.getfield 15, 3) := by decide +kernel
theorem dX5_fitFrom_134 : decode cX5_fitFrom 134 = .ok (.iload_n 1, 1) := by decide +kernel
theorem dX5_fitFrom_135 : decode cX5_fitFrom 135 = .ok (.iload 9, 2) := by decide +kernel
theorem dX5_fitFrom_137 : decode cX5_fitFrom 137 = .ok (.iastore, 1) := by decide +kernel
theorem dX5_fitFrom_138 : decode cX5_fitFrom 138 = .ok (.aload_n 0, 1) := by decide +kernel
theorem dX5_fitFrom_139 : decode cX5_fitFrom 139 = .ok (.getfield 19, 3) := by decide +kernel
theorem dX5_fitFrom_142 : decode cX5_fitFrom 142 = .ok (.iload_n 1, 1) := by decide +kernel
theorem dX5_fitFrom_143 : decode cX5_fitFrom 143 = .ok (.iload 6, 2) := by decide +kernel
theorem dX5_fitFrom_145 : decode cX5_fitFrom 145 = .ok (.iastore, 1) := by decide +kernel
theorem dX5_fitFrom_146 : decode cX5_fitFrom 146 = .ok (.iinc 6 1, 3) := by decide +kernel
theorem dX5_fitFrom_149 : decode cX5_fitFrom 149 = .ok (.goto (-104), 3) := by decide +kernel
theorem dX5_fitFrom_152 : decode cX5_fitFrom 152 = .ok (.return_, 1) := by decide +kernel
theorem dX5_keepStarts_0 : decode cX5_keepStarts 0 = .ok (.aload_n 0, 1) := by decide +kernel
theorem dX5_keepStarts_1 : decode cX5_keepStarts 1 = .ok (.getfield 25, 3) := by decide +kernel
theorem dX5_keepStarts_4 : decode cX5_keepStarts 4 = .ok (.iconst 0, 1) := by decide +kernel
theorem dX5_keepStarts_5 : decode cX5_keepStarts 5 = .ok (.iconst 0, 1) := by decide +kernel
theorem dX5_keepStarts_6 : decode cX5_keepStarts 6 = .ok (.iastore, 1) := by decide +kernel
theorem dX5_keepStarts_7 : decode cX5_keepStarts 7 = .ok (.iconst 0, 1) := by decide +kernel
theorem dX5_keepStarts_8 : decode cX5_keepStarts 8 = .ok (.istore_n 1, 1) := by decide +kernel
theorem dX5_keepStarts_9 : decode cX5_keepStarts 9 = .ok (.iload_n 1, 1) := by decide +kernel
theorem dX5_keepStarts_10 : decode cX5_keepStarts 10 = .ok (.aload_n 0, 1) := by decide +kernel
theorem dX5_keepStarts_11 : decode cX5_keepStarts 11 = .ok (.getfield 15, 3) := by decide +kernel
theorem dX5_keepStarts_14 : decode cX5_keepStarts 14 = .ok (.iconst 0, 1) := by decide +kernel
theorem dX5_keepStarts_15 : decode cX5_keepStarts 15 = .ok (.iaload, 1) := by decide +kernel
theorem dX5_keepStarts_16 : decode cX5_keepStarts 16 = .ok (.if_icmp .gt 28, 3) := by decide +kernel
theorem dX5_keepStarts_19 : decode cX5_keepStarts 19 = .ok (.aload_n 0, 1) := by decide +kernel
theorem dX5_keepStarts_20 : decode cX5_keepStarts 20 = .ok (.getfield 25, 3) := by decide +kernel
theorem dX5_keepStarts_23 : decode cX5_keepStarts 23 = .ok (.iload_n 1, 1) := by decide +kernel
theorem dX5_keepStarts_24 : decode cX5_keepStarts 24 = .ok (.iconst 1, 1) := by decide +kernel
theorem dX5_keepStarts_25 : decode cX5_keepStarts 25 = .ok (.iadd, 1) := by decide +kernel
theorem dX5_keepStarts_26 : decode cX5_keepStarts 26 = .ok (.aload_n 0, 1) := by decide +kernel
theorem dX5_keepStarts_27 : decode cX5_keepStarts 27 = .ok (.getfield 19, 3) := by decide +kernel
theorem dX5_keepStarts_30 : decode cX5_keepStarts 30 = .ok (.aload_n 0, 1) := by decide +kernel
theorem dX5_keepStarts_31 : decode cX5_keepStarts 31 = .ok (.getfield 25, 3) := by decide +kernel
theorem dX5_keepStarts_34 : decode cX5_keepStarts 34 = .ok (.iload_n 1, 1) := by decide +kernel
theorem dX5_keepStarts_35 : decode cX5_keepStarts 35 = .ok (.iaload, 1) := by decide +kernel
theorem dX5_keepStarts_36 : decode cX5_keepStarts 36 = .ok (.iaload, 1) := by decide +kernel
theorem dX5_keepStarts_37 : decode cX5_keepStarts 37 = .ok (.iastore, 1) := by decide +kernel
theorem dX5_keepStarts_38 : decode cX5_keepStarts 38 = .ok (.iinc 1 1, 3) := by decide +kernel
theorem dX5_keepStarts_41 : decode cX5_keepStarts 41 = .ok (.goto (-32), 3) := by decide +kernel
theorem dX5_keepStarts_44 : decode cX5_keepStarts 44 = .ok (.return_, 1) := by decide +kernel
theorem dX5_breakCount_0 : decode cX5_breakCount 0 = .ok (.aload_n 0, 1) := by decide +kernel
theorem dX5_breakCount_1 : decode cX5_breakCount 1 = .ok (.getfield 15, 3) := by decide +kernel
theorem dX5_breakCount_4 : decode cX5_breakCount 4 = .ok (.iconst 0, 1) := by decide +kernel
theorem dX5_breakCount_5 : decode cX5_breakCount 5 = .ok (.iaload, 1) := by decide +kernel
theorem dX5_breakCount_6 : decode cX5_breakCount 6 = .ok (.ireturn, 1) := by decide +kernel
theorem dX5_breakYear_0 : decode cX5_breakYear 0 = .ok (.aload_n 0, 1) := by decide +kernel
theorem dX5_breakYear_1 : decode cX5_breakYear 1 = .ok (.getfield 28, 3) := by decide +kernel
theorem dX5_breakYear_4 : decode cX5_breakYear 4 = .ok (.aload_n 0, 1) := by decide +kernel
theorem dX5_breakYear_5 : decode cX5_breakYear 5 = .ok (.getfield 25, 3) := by decide +kernel
theorem dX5_breakYear_8 : decode cX5_breakYear 8 = .ok (.iload_n 1, 1) := by decide +kernel
theorem dX5_breakYear_9 : decode cX5_breakYear 9 = .ok (.iconst 1, 1) := by decide +kernel
theorem dX5_breakYear_10 : decode cX5_breakYear 10 = .ok (.iadd, 1) := by decide +kernel
theorem dX5_breakYear_11 : decode cX5_breakYear 11 = .ok (.iaload, 1) := by decide +kernel
theorem dX5_breakYear_12 : decode cX5_breakYear 12 = .ok (.invokevirtual 51, 3) := by decide +kernel
theorem dX5_breakYear_15 : decode cX5_breakYear 15 = .ok (.ireturn, 1) := by decide +kernel
theorem dX5_scaledShift_0 : decode cX5_scaledShift 0 = .ok (.aload_n 0, 1) := by decide +kernel
theorem dX5_scaledShift_1 : decode cX5_scaledShift 1 = .ok (.getfield 28, 3) := by decide +kernel
theorem dX5_scaledShift_4 : decode cX5_scaledShift 4 = .ok (.aload_n 0, 1) := by decide +kernel
theorem dX5_scaledShift_5 : decode cX5_scaledShift 5 = .ok (.getfield 25, 3) := by decide +kernel
theorem dX5_scaledShift_8 : decode cX5_scaledShift 8 = .ok (.iload_n 1, 1) := by decide +kernel
theorem dX5_scaledShift_9 : decode cX5_scaledShift 9 = .ok (.iconst 1, 1) := by decide +kernel
theorem dX5_scaledShift_10 : decode cX5_scaledShift 10 = .ok (.iadd, 1) := by decide +kernel
theorem dX5_scaledShift_11 : decode cX5_scaledShift 11 = .ok (.iaload, 1) := by decide +kernel
theorem dX5_scaledShift_12 : decode cX5_scaledShift 12 = .ok (.aload_n 0, 1) := by decide +kernel
theorem dX5_scaledShift_13 : decode cX5_scaledShift 13 = .ok (.getfield 25, 3) := by decide +kernel
theorem dX5_scaledShift_16 : decode cX5_scaledShift 16 = .ok (.iload_n 1, 1) := by decide +kernel
theorem dX5_scaledShift_17 : decode cX5_scaledShift 17 = .ok (.iconst 2, 1) := by decide +kernel
theorem dX5_scaledShift_18 : decode cX5_scaledShift 18 = .ok (.iadd, 1) := by decide +kernel
theorem dX5_scaledShift_19 : decode cX5_scaledShift 19 = .ok (.iaload, 1) := by decide +kernel
theorem dX5_scaledShift_20 : decode cX5_scaledShift 20 = .ok (.invokevirtual 55, 3) := by decide +kernel
theorem dX5_scaledShift_23 : decode cX5_scaledShift 23 = .ok (.aload_n 0, 1) := by decide +kernel
theorem dX5_scaledShift_24 : decode cX5_scaledShift 24 = .ok (.getfield 28, 3) := by decide +kernel
theorem dX5_scaledShift_27 : decode cX5_scaledShift 27 = .ok (.aload_n 0, 1) := by decide +kernel
theorem dX5_scaledShift_28 : decode cX5_scaledShift 28 = .ok (.getfield 25, 3) := by decide +kernel
theorem dX5_scaledShift_31 : decode cX5_scaledShift 31 = .ok (.iload_n 1, 1) := by decide +kernel
theorem dX5_scaledShift_32 : decode cX5_scaledShift 32 = .ok (.iaload, 1) := by decide +kernel
theorem dX5_scaledShift_33 : decode cX5_scaledShift 33 = .ok (.aload_n 0, 1) := by decide +kernel
theorem dX5_scaledShift_34 : decode cX5_scaledShift 34 = .ok (.getfield 25, 3) := by decide +kernel
theorem dX5_scaledShift_37 : decode cX5_scaledShift 37 = .ok (.iload_n 1, 1) := by decide +kernel
theorem dX5_scaledShift_38 : decode cX5_scaledShift 38 = .ok (.iconst 1, 1) := by decide +kernel
theorem dX5_scaledShift_39 : decode cX5_scaledShift 39 = .ok (.iadd, 1) := by decide +kernel
theorem dX5_scaledShift_40 : decode cX5_scaledShift 40 = .ok (.iaload, 1) := by decide +kernel
theorem dX5_scaledShift_41 : decode cX5_scaledShift 41 = .ok (.invokevirtual 55, 3) := by decide +kernel
theorem dX5_scaledShift_44 : decode cX5_scaledShift 44 = .ok (.lsub, 1) := by decide +kernel
theorem dX5_scaledShift_45 : decode cX5_scaledShift 45 = .ok (.lreturn, 1) := by decide +kernel
theorem dX5_scaledCost_0 : decode cX5_scaledCost 0 = .ok (.aload_n 0, 1) := by decide +kernel
theorem dX5_scaledCost_1 : decode cX5_scaledCost 1 = .ok (.getfield 9, 3) := by decide +kernel
theorem dX5_scaledCost_4 : decode cX5_scaledCost 4 = .ok (.iconst 0, 1) := by decide +kernel
theorem dX5_scaledCost_5 : decode cX5_scaledCost 5 = .ok (.laload, 1) := by decide +kernel
theorem dX5_scaledCost_6 : decode cX5_scaledCost 6 = .ok (.lreturn, 1) := by decide +kernel
theorem dX5_scaledSpreads_0 : decode cX5_scaledSpreads 0 = .ok (.aload_n 0, 1) := by decide +kernel
theorem dX5_scaledSpreads_1 : decode cX5_scaledSpreads 1 = .ok (.getfield 28, 3) := by decide +kernel
theorem dX5_scaledSpreads_4 : decode cX5_scaledSpreads 4 = .ok (.invokevirtual 32, 3) := by decide +kernel
theorem dX5_scaledSpreads_7 : decode cX5_scaledSpreads 7 = .ok (.istore_n 3, 1) := by decide +kernel
theorem dX5_scaledSpreads_8 : decode cX5_scaledSpreads 8 = .ok (.iload_n 2, 1) := by decide +kernel
theorem dX5_scaledSpreads_9 : decode cX5_scaledSpreads 9 = .ok (.ifCond .le 21, 3) := by decide +kernel
theorem dX5_scaledSpreads_12 : decode cX5_scaledSpreads 12 = .ok (.iload_n 2, 1) := by decide +kernel
theorem dX5_scaledSpreads_13 : decode cX5_scaledSpreads 13 = .ok (.iload_n 3, 1) := by decide +kernel
theorem dX5_scaledSpreads_14 : decode cX5_scaledSpreads 14 = .ok (.if_icmp .ge 12, 3) := by decide +kernel
theorem dX5_scaledSpreads_17 : decode cX5_scaledSpreads 17 = .ok (.iload_n 2, 1) := by decide +kernel
theorem dX5_scaledSpreads_18 : decode cX5_scaledSpreads 18 = .ok (.iconst 1, 1) := by decide +kernel
theorem dX5_scaledSpreads_19 : decode cX5_scaledSpreads 19 = .ok (.iadd, 1) := by decide +kernel
theorem dX5_scaledSpreads_20 : decode cX5_scaledSpreads 20 = .ok (.iload_n 1, 1) := by decide +kernel
theorem dX5_scaledSpreads_21 : decode cX5_scaledSpreads 21 = .ok (.imul, 1) := by decide +kernel
theorem dX5_scaledSpreads_22 : decode cX5_scaledSpreads 22 = .ok (.iload_n 3, 1) := by decide +kernel
theorem dX5_scaledSpreads_23 : decode cX5_scaledSpreads 23 = .ok (.if_icmp .le 7, 3) := by decide +kernel
theorem dX5_scaledSpreads_26 : decode cX5_scaledSpreads 26 = .ok (.ldc2_w 58, 3) := by decide +kernel
theorem dX5_scaledSpreads_29 : decode cX5_scaledSpreads 29 = .ok (.lreturn, 1) := by decide +kernel
theorem dX5_scaledSpreads_30 : decode cX5_scaledSpreads 30 = .ok (.iconst 0, 1) := by decide +kernel
theorem dX5_scaledSpreads_31 : decode cX5_scaledSpreads 31 = .ok (.istore 4, 2) := by decide +kernel
theorem dX5_scaledSpreads_33 : decode cX5_scaledSpreads 33 = .ok (.iload 4, 2) := by decide +kernel
theorem dX5_scaledSpreads_35 : decode cX5_scaledSpreads 35 = .ok (.iload_n 3, 1) := by decide +kernel
theorem dX5_scaledSpreads_36 : decode cX5_scaledSpreads 36 = .ok (.if_icmp .gt 26, 3) := by decide +kernel
theorem dX5_scaledSpreads_39 : decode cX5_scaledSpreads 39 = .ok (.aload_n 0, 1) := by decide +kernel
theorem dX5_scaledSpreads_40 : decode cX5_scaledSpreads 40 = .ok (.getfield 22, 3) := by decide +kernel
theorem dX5_scaledSpreads_43 : decode cX5_scaledSpreads 43 = .ok (.iload 4, 2) := by decide +kernel
theorem dX5_scaledSpreads_45 : decode cX5_scaledSpreads 45 = .ok (.aload_n 0, 1) := by decide +kernel
theorem dX5_scaledSpreads_46 : decode cX5_scaledSpreads 46 = .ok (.getfield 28, 3) := by decide +kernel
theorem dX5_scaledSpreads_49 : decode cX5_scaledSpreads 49 = .ok (.iload 4, 2) := by decide +kernel
theorem dX5_scaledSpreads_51 : decode cX5_scaledSpreads 51 = .ok (.iload_n 3, 1) := by decide +kernel
theorem dX5_scaledSpreads_52 : decode cX5_scaledSpreads 52 = .ok (.invokevirtual 47, 3) := by decide +kernel
theorem dX5_scaledSpreads_55 : decode cX5_scaledSpreads 55 = .ok (.lastore, 1) := by decide +kernel
theorem dX5_scaledSpreads_56 : decode cX5_scaledSpreads 56 = .ok (.iinc 4 1, 3) := by decide +kernel
theorem dX5_scaledSpreads_59 : decode cX5_scaledSpreads 59 = .ok (.goto (-26), 3) := by decide +kernel
theorem dX5_scaledSpreads_62 : decode cX5_scaledSpreads 62 = .ok (.iconst 2, 1) := by decide +kernel
theorem dX5_scaledSpreads_63 : decode cX5_scaledSpreads 63 = .ok (.istore 4, 2) := by decide +kernel
theorem dX5_scaledSpreads_65 : decode cX5_scaledSpreads 65 = .ok (.iload 4, 2) := by decide +kernel
theorem dX5_scaledSpreads_67 : decode cX5_scaledSpreads 67 = .ok (.iload_n 2, 1) := by decide +kernel
theorem dX5_scaledSpreads_68 : decode cX5_scaledSpreads 68 = .ok (.iconst 1, 1) := by decide +kernel
theorem dX5_scaledSpreads_69 : decode cX5_scaledSpreads 69 = .ok (.iadd, 1) := by decide +kernel
theorem dX5_scaledSpreads_70 : decode cX5_scaledSpreads 70 = .ok (.if_icmp .gt 16, 3) := by decide +kernel
theorem dX5_scaledSpreads_73 : decode cX5_scaledSpreads 73 = .ok (.aload_n 0, 1) := by decide +kernel
theorem dX5_scaledSpreads_74 : decode cX5_scaledSpreads 74 = .ok (.iload 4, 2) := by decide +kernel
theorem dX5_scaledSpreads_76 : decode cX5_scaledSpreads 76 = .ok (.iload_n 1, 1) := by decide +kernel
theorem dX5_scaledSpreads_77 : decode cX5_scaledSpreads 77 = .ok (.invokevirtual 60, 3) := by decide +kernel
theorem dX5_scaledSpreads_80 : decode cX5_scaledSpreads 80 = .ok (.iinc 4 1, 3) := by decide +kernel
theorem dX5_scaledSpreads_83 : decode cX5_scaledSpreads 83 = .ok (.goto (-18), 3) := by decide +kernel
theorem dX5_scaledSpreads_86 : decode cX5_scaledSpreads 86 = .ok (.aload_n 0, 1) := by decide +kernel
theorem dX5_scaledSpreads_87 : decode cX5_scaledSpreads 87 = .ok (.getfield 22, 3) := by decide +kernel
theorem dX5_scaledSpreads_90 : decode cX5_scaledSpreads 90 = .ok (.iconst 0, 1) := by decide +kernel
theorem dX5_scaledSpreads_91 : decode cX5_scaledSpreads 91 = .ok (.laload, 1) := by decide +kernel
theorem dX5_scaledSpreads_92 : decode cX5_scaledSpreads 92 = .ok (.lreturn, 1) := by decide +kernel
theorem dX5_addRun_0 : decode cX5_addRun 0 = .ok (.aload_n 0, 1) := by decide +kernel
theorem dX5_addRun_1 : decode cX5_addRun 1 = .ok (.getfield 28, 3) := by decide +kernel
theorem dX5_addRun_4 : decode cX5_addRun 4 = .ok (.invokevirtual 32, 3) := by decide +kernel
theorem dX5_addRun_7 : decode cX5_addRun 7 = .ok (.iload_n 1, 1) := by decide +kernel
theorem dX5_addRun_8 : decode cX5_addRun 8 = .ok (.iconst 1, 1) := by decide +kernel
theorem dX5_addRun_9 : decode cX5_addRun 9 = .ok (.isub, 1) := by decide +kernel
theorem dX5_addRun_10 : decode cX5_addRun 10 = .ok (.iload_n 2, 1) := by decide +kernel
theorem dX5_addRun_11 : decode cX5_addRun 11 = .ok (.imul, 1) := by decide +kernel
theorem dX5_addRun_12 : decode cX5_addRun 12 = .ok (.isub, 1) := by decide +kernel
theorem dX5_addRun_13 : decode cX5_addRun 13 = .ok (.istore_n 3, 1) := by decide +kernel
theorem dX5_addRun_14 : decode cX5_addRun 14 = .ok (.iconst 0, 1) := by decide +kernel
theorem dX5_addRun_15 : decode cX5_addRun 15 = .ok (.istore 4, 2) := by decide +kernel
theorem dX5_addRun_17 : decode cX5_addRun 17 = .ok (.iload 4, 2) := by decide +kernel
theorem dX5_addRun_19 : decode cX5_addRun 19 = .ok (.iload_n 2, 1) := by decide +kernel
theorem dX5_addRun_20 : decode cX5_addRun 20 = .ok (.iadd, 1) := by decide +kernel
theorem dX5_addRun_21 : decode cX5_addRun 21 = .ok (.iload_n 3, 1) := by decide +kernel
theorem dX5_addRun_22 : decode cX5_addRun 22 = .ok (.if_icmp .gt 89, 3) := by decide +kernel
theorem dX5_addRun_25 : decode cX5_addRun 25 = .ok (.aload_n 0, 1) := by decide +kernel
theorem dX5_addRun_26 : decode cX5_addRun 26 = .ok (.getfield 28, 3) := by decide +kernel
theorem dX5_addRun_29 : decode cX5_addRun 29 = .ok (.iload 4, 2) := by decide +kernel
theorem dX5_addRun_31 : decode cX5_addRun 31 = .ok (.iload 4, 2) := by decide +kernel
theorem dX5_addRun_33 : decode cX5_addRun 33 = .ok (.iload_n 2, 1) := by decide +kernel
theorem dX5_addRun_34 : decode cX5_addRun 34 = .ok (.iadd, 1) := by decide +kernel
theorem dX5_addRun_35 : decode cX5_addRun 35 = .ok (.invokevirtual 47, 3) := by decide +kernel
theorem dX5_addRun_38 : decode cX5_addRun 38 = .ok (.aload_n 0, 1) := by decide +kernel
theorem dX5_addRun_39 : decode cX5_addRun 39 = .ok (.getfield 22, 3) := by decide +kernel
theorem dX5_addRun_42 : decode cX5_addRun 42 = .ok (.iload 4, 2) := by decide +kernel
theorem dX5_addRun_44 : decode cX5_addRun 44 = .ok (.iload_n 2, 1) := by decide +kernel
theorem dX5_addRun_45 : decode cX5_addRun 45 = .ok (.iadd, 1) := by decide +kernel
theorem dX5_addRun_46 : decode cX5_addRun 46 = .ok (.laload, 1) := by decide +kernel
theorem dX5_addRun_47 : decode cX5_addRun 47 = .ok (.ladd, 1) := by decide +kernel
theorem dX5_addRun_48 : decode cX5_addRun 48 = .ok (.lstore 5, 2) := by decide +kernel
theorem dX5_addRun_50 : decode cX5_addRun 50 = .ok (.iload 4, 2) := by decide +kernel
theorem dX5_addRun_52 : decode cX5_addRun 52 = .ok (.iload_n 2, 1) := by decide +kernel
theorem dX5_addRun_53 : decode cX5_addRun 53 = .ok (.iadd, 1) := by decide +kernel
theorem dX5_addRun_54 : decode cX5_addRun 54 = .ok (.iconst 1, 1) := by decide +kernel
theorem dX5_addRun_55 : decode cX5_addRun 55 = .ok (.iadd, 1) := by decide +kernel
theorem dX5_addRun_56 : decode cX5_addRun 56 = .ok (.istore 7, 2) := by decide +kernel
theorem dX5_addRun_58 : decode cX5_addRun 58 = .ok (.iload 7, 2) := by decide +kernel
theorem dX5_addRun_60 : decode cX5_addRun 60 = .ok (.iload_n 3, 1) := by decide +kernel
theorem dX5_addRun_61 : decode cX5_addRun 61 = .ok (.if_icmp .gt 35, 3) := by decide +kernel
theorem dX5_addRun_64 : decode cX5_addRun 64 = .ok (.lload 5, 2) := by decide +kernel
theorem dX5_addRun_66 : decode cX5_addRun 66 = .ok (.aload_n 0, 1) := by decide +kernel
theorem dX5_addRun_67 : decode cX5_addRun 67 = .ok (.getfield 28, 3) := by decide +kernel
theorem dX5_addRun_70 : decode cX5_addRun 70 = .ok (.iload 4, 2) := by decide +kernel
theorem dX5_addRun_72 : decode cX5_addRun 72 = .ok (.iload 7, 2) := by decide +kernel
theorem dX5_addRun_74 : decode cX5_addRun 74 = .ok (.invokevirtual 47, 3) := by decide +kernel
theorem dX5_addRun_77 : decode cX5_addRun 77 = .ok (.aload_n 0, 1) := by decide +kernel
theorem dX5_addRun_78 : decode cX5_addRun 78 = .ok (.getfield 22, 3) := by decide +kernel
theorem dX5_addRun_81 : decode cX5_addRun 81 = .ok (.iload 7, 2) := by decide +kernel
theorem dX5_addRun_83 : decode cX5_addRun 83 = .ok (.laload, 1) := by decide +kernel
theorem dX5_addRun_84 : decode cX5_addRun 84 = .ok (.ladd, 1) := by decide +kernel
theorem dX5_addRun_85 : decode cX5_addRun 85 = .ok (.invokestatic 64, 3) := by decide +kernel
theorem dX5_addRun_88 : decode cX5_addRun 88 = .ok (.lstore 5, 2) := by decide +kernel
theorem dX5_addRun_90 : decode cX5_addRun 90 = .ok (.iinc 7 1, 3) := by decide +kernel
theorem dX5_addRun_93 : decode cX5_addRun 93 = .ok (.goto (-35), 3) := by decide +kernel
theorem dX5_addRun_96 : decode cX5_addRun 96 = .ok (.aload_n 0, 1) := by decide +kernel
theorem dX5_addRun_97 : decode cX5_addRun 97 = .ok (.getfield 22, 3) := by decide +kernel
theorem dX5_addRun_100 : decode cX5_addRun 100 = .ok (.iload 4, 2) := by decide +kernel
theorem dX5_addRun_102 : decode cX5_addRun 102 = .ok (.lload 5, 2) := by decide +kernel
theorem dX5_addRun_104 : decode cX5_addRun 104 = .ok (.lastore, 1) := by decide +kernel
theorem dX5_addRun_105 : decode cX5_addRun 105 = .ok (.iinc 4 1, 3) := by decide +kernel
theorem dX5_addRun_108 : decode cX5_addRun 108 = .ok (.goto (-91), 3) := by decide +kernel
theorem dX5_addRun_111 : decode cX5_addRun 111 = .ok (.return_, 1) := by decide +kernel
theorem dX6_init_0 : decode cX6_init 0 = .ok (.aload_n 0, 1) := by decide +kernel
theorem dX6_init_1 : decode cX6_init 1 = .ok (.invokespecial 3, 3) := by decide +kernel
theorem dX6_init_4 : decode cX6_init 4 = .ok (.aload_n 0, 1) := by decide +kernel
theorem dX6_init_5 : decode cX6_init 5 = .ok (.bipush 16, 2) := by decide +kernel
theorem dX6_init_7 : decode cX6_init 7 = .ok (.newarray .int, 2) := by decide +kernel
theorem dX6_init_9 : decode cX6_init 9 = .ok (.putfield 9, 3) := by decide +kernel
theorem dX6_init_12 : decode cX6_init 12 = .ok (.aload_n 0, 1) := by decide +kernel
theorem dX6_init_13 : decode cX6_init 13 = .ok (.bipush 16, 2) := by decide +kernel
theorem dX6_init_15 : decode cX6_init 15 = .ok (.newarray .int, 2) := by decide +kernel
theorem dX6_init_17 : decode cX6_init 17 = .ok (.putfield 15, 3) := by decide +kernel
theorem dX6_init_20 : decode cX6_init 20 = .ok (.aload_n 0, 1) := by decide +kernel
theorem dX6_init_21 : decode cX6_init 21 = .ok (.bipush 17, 2) := by decide +kernel
theorem dX6_init_23 : decode cX6_init 23 = .ok (.newarray .long, 2) := by decide +kernel
theorem dX6_init_25 : decode cX6_init 25 = .ok (.putfield 18, 3) := by decide +kernel
theorem dX6_init_28 : decode cX6_init 28 = .ok (.aload_n 0, 1) := by decide +kernel
theorem dX6_init_29 : decode cX6_init 29 = .ok (.bipush 17, 2) := by decide +kernel
theorem dX6_init_31 : decode cX6_init 31 = .ok (.newarray .long, 2) := by decide +kernel
theorem dX6_init_33 : decode cX6_init 33 = .ok (.putfield 22, 3) := by decide +kernel
theorem dX6_init_36 : decode cX6_init 36 = .ok (.return_, 1) := by decide +kernel
theorem dX6_compare_0 : decode cX6_compare 0 = .ok (.aload_n 0, 1) := by decide +kernel
theorem dX6_compare_1 : decode cX6_compare 1 = .ok (.iconst 0, 1) := by decide +kernel
theorem dX6_compare_2 : decode cX6_compare 2 = .ok (.putfield 25, 3) := by decide +kernel
theorem dX6_compare_5 : decode cX6_compare 5 = .ok (.iconst 0, 1) := by decide +kernel
theorem dX6_compare_6 : decode cX6_compare 6 = .ok (.istore 4, 2) := by decide +kernel
theorem dX6_compare_8 : decode cX6_compare 8 = .ok (.iload 4, 2) := by decide +kernel
theorem dX6_compare_10 : decode cX6_compare 10 = .ok (.aload_n 1, 1) := by decide +kernel
theorem dX6_compare_11 : decode cX6_compare 11 = .ok (.invokevirtual 29, 3) := by decide +kernel
theorem dX6_compare_14 : decode cX6_compare 14 = .ok (.if_icmp .ge 50, 3) := by decide +kernel
theorem dX6_compare_17 : decode cX6_compare 17 = .ok (.aload_n 1, 1) := by decide +kernel
theorem dX6_compare_18 : decode cX6_compare 18 = .ok (.iload_n 2, 1) := by decide +kernel
theorem dX6_compare_19 : decode cX6_compare 19 = .ok (.iload 4, 2) := by decide +kernel
theorem dX6_compare_21 : decode cX6_compare 21 = .ok (.invokevirtual 34, 3) := by decide +kernel
theorem dX6_compare_24 : decode cX6_compare 24 = .ok (.ifCond .eq 34, 3) := by decide +kernel
theorem dX6_compare_27 : decode cX6_compare 27 = .ok (.aload_n 1, 1) := by decide +kernel
theorem dX6_compare_28 : decode cX6_compare 28 = .ok (.iload_n 3, 1) := by decide +kernel
theorem dX6_compare_29 : decode cX6_compare 29 = .ok (.iload 4, 2) := by decide +kernel
theorem dX6_compare_31 : decode cX6_compare 31 = .ok (.invokevirtual 34, 3) := by decide +kernel
theorem dX6_compare_34 : decode cX6_compare 34 = .ok (.ifCond .eq 24, 3) := by decide +kernel
theorem dX6_compare_37 : decode cX6_compare 37 = .ok (.aload_n 0, 1) := by decide +kernel
theorem dX6_compare_38 : decode cX6_compare 38 = .ok (.iload 4, 2) := by decide +kernel
theorem dX6_compare_40 : decode cX6_compare 40 = .ok (.aload_n 1, 1) := by decide +kernel
theorem dX6_compare_41 : decode cX6_compare 41 = .ok (.iload_n 2, 1) := by decide +kernel
theorem dX6_compare_42 : decode cX6_compare 42 = .ok (.iload 4, 2) := by decide +kernel
theorem dX6_compare_44 : decode cX6_compare 44 = .ok (.invokevirtual 38, 3) := by decide +kernel
theorem dX6_compare_47 : decode cX6_compare 47 = .ok (.aload_n 1, 1) := by decide +kernel
theorem dX6_compare_48 : decode cX6_compare 48 = .ok (.iload_n 3, 1) := by decide +kernel
theorem dX6_compare_49 : decode cX6_compare 49 = .ok (.iload 4, 2) := by decide +kernel
theorem dX6_compare_51 : decode cX6_compare 51 = .ok (.invokevirtual 38, 3) := by decide +kernel
theorem dX6_compare_54 : decode cX6_compare 54 = .ok (.isub, 1) := by decide +kernel
theorem dX6_compare_55 : decode cX6_compare 55 = .ok (.invokevirtual 42, 3) := by decide +kernel
theorem dX6_compare_58 : decode cX6_compare 58 = .ok (.iinc 4 1, 3) := by decide +kernel
theorem dX6_compare_61 : decode cX6_compare 61 = .ok (.goto (-53), 3) := by decide +kernel
theorem dX6_compare_64 : decode cX6_compare 64 = .ok (.return_, 1) := by decide +kernel
theorem dX6_add_0 : decode cX6_add 0 = .ok (.aload_n 0, 1) := by decide +kernel
theorem dX6_add_1 : decode cX6_add 1 = .ok (.getfield 25, 3) := by decide +kernel
theorem dX6_add_4 : decode cX6_add 4 = .ok (.bipush 16, 2) := by decide +kernel
theorem dX6_add_6 : decode cX6_add 6 = .ok (.if_icmp .lt 4, 3) := by decide +kernel
theorem dX6_add_9 : decode cX6_add 9 = .ok (.return_, 1) := by decide +kernel
theorem dX6_add_10 : decode cX6_add 10 = .ok (.aload_n 0, 1) := by decide +kernel
theorem dX6_add_11 : decode cX6_add 11 = .ok (.getfield 9, 3) := by decide +kernel
theorem dX6_add_14 : decode cX6_add 14 = .ok (.aload_n 0, 1) := by decide +kernel
theorem dX6_add_15 : decode cX6_add 15 = .ok (.getfield 25, 3) := by decide +kernel
theorem dX6_add_18 : decode cX6_add 18 = .ok (.iload_n 2, 1) := by decide +kernel
theorem dX6_add_19 : decode cX6_add 19 = .ok (.iastore, 1) := by decide +kernel
theorem dX6_add_20 : decode cX6_add 20 = .ok (.aload_n 0, 1) := by decide +kernel
theorem dX6_add_21 : decode cX6_add 21 = .ok (.getfield 15, 3) := by decide +kernel
theorem dX6_add_24 : decode cX6_add 24 = .ok (.aload_n 0, 1) := by decide +kernel
theorem dX6_add_25 : decode cX6_add 25 = .ok (.getfield 25, 3) := by decide +kernel
theorem dX6_add_28 : decode cX6_add 28 = .ok (.iload_n 1, 1) := by decide +kernel
theorem dX6_add_29 : decode cX6_add 29 = .ok (.iastore, 1) := by decide +kernel
theorem dX6_add_30 : decode cX6_add 30 = .ok (.aload_n 0, 1) := by decide +kernel
theorem dX6_add_31 : decode cX6_add 31 = .ok (.getfield 18, 3) := by decide +kernel
theorem dX6_add_34 : decode cX6_add 34 = .ok (.aload_n 0, 1) := by decide +kernel
theorem dX6_add_35 : decode cX6_add 35 = .ok (.getfield 25, 3) := by decide +kernel
theorem dX6_add_38 : decode cX6_add 38 = .ok (.iconst 1, 1) := by decide +kernel
theorem dX6_add_39 : decode cX6_add 39 = .ok (.iadd, 1) := by decide +kernel
theorem dX6_add_40 : decode cX6_add 40 = .ok (.aload_n 0, 1) := by decide +kernel
theorem dX6_add_41 : decode cX6_add 41 = .ok (.getfield 18, 3) := by decide +kernel
theorem dX6_add_44 : decode cX6_add 44 = .ok (.aload_n 0, 1) := by decide +kernel
theorem dX6_add_45 : decode cX6_add 45 = .ok (.getfield 25, 3) := by decide +kernel
theorem dX6_add_48 : decode cX6_add 48 = .ok (.laload, 1) := by decide +kernel
theorem dX6_add_49 : decode cX6_add 49 = .ok (.iload_n 2, 1) := by decide +kernel
theorem dX6_add_50 : decode cX6_add 50 = .ok (.i2l, 1) := by decide +kernel
theorem dX6_add_51 : decode cX6_add 51 = .ok (.ladd, 1) := by decide +kernel
theorem dX6_add_52 : decode cX6_add 52 = .ok (.lastore, 1) := by decide +kernel
theorem dX6_add_53 : decode cX6_add 53 = .ok (.aload_n 0, 1) := by decide +kernel
theorem dX6_add_54 : decode cX6_add 54 = .ok (.getfield 22, 3) := by decide +kernel
theorem dX6_add_57 : decode cX6_add 57 = .ok (.aload_n 0, 1) := by decide +kernel
theorem dX6_add_58 : decode cX6_add 58 = .ok (.getfield 25, 3) := by decide +kernel
theorem dX6_add_61 : decode cX6_add 61 = .ok (.iconst 1, 1) := by decide +kernel
theorem dX6_add_62 : decode cX6_add 62 = .ok (.iadd, 1) := by decide +kernel
theorem dX6_add_63 : decode cX6_add 63 = .ok (.aload_n 0, 1) := by decide +kernel
theorem dX6_add_64 : decode cX6_add 64 = .ok (.getfield 22, 3) := by decide +kernel
theorem dX6_add_67 : decode cX6_add 67 = .ok (.aload_n 0, 1) := by decide +kernel
theorem dX6_add_68 : decode cX6_add 68 = .ok (.getfield 25, 3) := by decide +kernel
theorem dX6_add_71 : decode cX6_add 71 = .ok (.laload, 1) := by decide +kernel
theorem dX6_add_72 : decode cX6_add 72 = .ok (.iload_n 2, 1) := by decide +kernel
theorem dX6_add_73 : decode cX6_add 73 = .ok (.i2l, 1) := by decide +kernel
theorem dX6_add_74 : decode cX6_add 74 = .ok (.iload_n 2, 1) := by decide +kernel
theorem dX6_add_75 : decode cX6_add 75 = .ok (.i2l, 1) := by decide +kernel
theorem dX6_add_76 : decode cX6_add 76 = .ok (.lmul, 1) := by decide +kernel
theorem dX6_add_77 : decode cX6_add 77 = .ok (.ladd, 1) := by decide +kernel
theorem dX6_add_78 : decode cX6_add 78 = .ok (.lastore, 1) := by decide +kernel
theorem dX6_add_79 : decode cX6_add 79 = .ok (.aload_n 0, 1) := by decide +kernel
theorem dX6_add_80 : decode cX6_add 80 = .ok (.dup, 1) := by decide +kernel
theorem dX6_add_81 : decode cX6_add 81 = .ok (.getfield 25, 3) := by decide +kernel
theorem dX6_add_84 : decode cX6_add 84 = .ok (.iconst 1, 1) := by decide +kernel
theorem dX6_add_85 : decode cX6_add 85 = .ok (.iadd, 1) := by decide +kernel
theorem dX6_add_86 : decode cX6_add 86 = .ok (.putfield 25, 3) := by decide +kernel
theorem dX6_add_89 : decode cX6_add 89 = .ok (.return_, 1) := by decide +kernel
theorem dX6_length_0 : decode cX6_length 0 = .ok (.aload_n 0, 1) := by decide +kernel
theorem dX6_length_1 : decode cX6_length 1 = .ok (.getfield 25, 3) := by decide +kernel
theorem dX6_length_4 : decode cX6_length 4 = .ok (.ireturn, 1) := by decide +kernel
theorem dX6_entryAt_0 : decode cX6_entryAt 0 = .ok (.aload_n 0, 1) := by decide +kernel
theorem dX6_entryAt_1 : decode cX6_entryAt 1 = .ok (.getfield 9, 3) := by decide +kernel
theorem dX6_entryAt_4 : decode cX6_entryAt 4 = .ok (.iload_n 1, 1) := by decide +kernel
theorem dX6_entryAt_5 : decode cX6_entryAt 5 = .ok (.iaload, 1) := by decide +kernel
theorem dX6_entryAt_6 : decode cX6_entryAt 6 = .ok (.ireturn, 1) := by decide +kernel
theorem dX6_yearAt_0 : decode cX6_yearAt 0 = .ok (.aload_n 0, 1) := by decide +kernel
theorem dX6_yearAt_1 : decode cX6_yearAt 1 = .ok (.getfield 15, 3) := by decide +kernel
theorem dX6_yearAt_4 : decode cX6_yearAt 4 = .ok (.iload_n 1, 1) := by decide +kernel
theorem dX6_yearAt_5 : decode cX6_yearAt 5 = .ok (.iaload, 1) := by decide +kernel
theorem dX6_yearAt_6 : decode cX6_yearAt 6 = .ok (.ireturn, 1) := by decide +kernel
theorem dX6_scaledMean_0 : decode cX6_scaledMean 0 = .ok (.iload_n 2, 1) := by decide +kernel
theorem dX6_scaledMean_1 : decode cX6_scaledMean 1 = .ok (.iload_n 1, 1) := by decide +kernel
theorem dX6_scaledMean_2 : decode cX6_scaledMean 2 = .ok (.if_icmp .gt 7, 3) := by decide +kernel
theorem dX6_scaledMean_5 : decode cX6_scaledMean 5 = .ok (.lconst 0, 1) := by decide +kernel
theorem dX6_scaledMean_6 : decode cX6_scaledMean 6 = .ok (.goto 24, 3) := by decide +kernel
theorem dX6_scaledMean_9 : decode cX6_scaledMean 9 = .ok (.aload_n 0, 1) := by decide +kernel
theorem dX6_scaledMean_10 : decode cX6_scaledMean 10 = .ok (.getfield 18, 3) := by decide +kernel
theorem dX6_scaledMean_13 : decode cX6_scaledMean 13 = .ok (.iload_n 2, 1) := by decide +kernel
theorem dX6_scaledMean_14 : decode cX6_scaledMean 14 = .ok (.laload, 1) := by decide +kernel
theorem dX6_scaledMean_15 : decode cX6_scaledMean 15 = .ok (.aload_n 0, 1) := by decide +kernel
theorem dX6_scaledMean_16 : decode cX6_scaledMean 16 = .ok (.getfield 18, 3) := by decide +kernel
theorem dX6_scaledMean_19 : decode cX6_scaledMean 19 = .ok (.iload_n 1, 1) := by decide +kernel
theorem dX6_scaledMean_20 : decode cX6_scaledMean 20 = .ok (.laload, 1) := by decide +kernel
theorem dX6_scaledMean_21 : decode cX6_scaledMean 21 = .ok (.lsub, 1) := by decide +kernel
theorem dX6_scaledMean_22 : decode cX6_scaledMean 22 = .ok (.ldc 46, 2) := by decide +kernel
theorem dX6_scaledMean_24 : decode cX6_scaledMean 24 = .ok (.iload_n 2, 1) := by decide +kernel
theorem dX6_scaledMean_25 : decode cX6_scaledMean 25 = .ok (.iload_n 1, 1) := by decide +kernel
theorem dX6_scaledMean_26 : decode cX6_scaledMean 26 = .ok (.isub, 1) := by decide +kernel
theorem dX6_scaledMean_27 : decode cX6_scaledMean 27 = .ok (.idiv, 1) := by decide +kernel
theorem dX6_scaledMean_28 : decode cX6_scaledMean 28 = .ok (.i2l, 1) := by decide +kernel
theorem dX6_scaledMean_29 : decode cX6_scaledMean 29 = .ok (.lmul, 1) := by decide +kernel
theorem dX6_scaledMean_30 : decode cX6_scaledMean 30 = .ok (.lreturn, 1) := by decide +kernel
theorem dX6_scaledSpread_0 : decode cX6_scaledSpread 0 = .ok (.iload_n 2, 1) := by decide +kernel
theorem dX6_scaledSpread_1 : decode cX6_scaledSpread 1 = .ok (.iload_n 1, 1) := by decide +kernel
theorem dX6_scaledSpread_2 : decode cX6_scaledSpread 2 = .ok (.if_icmp .gt 5, 3) := by decide +kernel
theorem dX6_scaledSpread_5 : decode cX6_scaledSpread 5 = .ok (.lconst 0, 1) := by decide +kernel
theorem dX6_scaledSpread_6 : decode cX6_scaledSpread 6 = .ok (.lreturn, 1) := by decide +kernel
theorem dX6_scaledSpread_7 : decode cX6_scaledSpread 7 = .ok (.iload_n 2, 1) := by decide +kernel
theorem dX6_scaledSpread_8 : decode cX6_scaledSpread 8 = .ok (.iload_n 1, 1) := by decide +kernel
theorem dX6_scaledSpread_9 : decode cX6_scaledSpread 9 = .ok (.isub, 1) := by decide +kernel
theorem dX6_scaledSpread_10 : decode cX6_scaledSpread 10 = .ok (.istore_n 3, 1) := by decide +kernel
theorem dX6_scaledSpread_11 : decode cX6_scaledSpread 11 = .ok (.aload_n 0, 1) := by decide +kernel
theorem dX6_scaledSpread_12 : decode cX6_scaledSpread 12 = .ok (.getfield 18, 3) := by decide +kernel
theorem dX6_scaledSpread_15 : decode cX6_scaledSpread 15 = .ok (.iload_n 2, 1) := by decide +kernel
theorem dX6_scaledSpread_16 : decode cX6_scaledSpread 16 = .ok (.laload, 1) := by decide +kernel
theorem dX6_scaledSpread_17 : decode cX6_scaledSpread 17 = .ok (.aload_n 0, 1) := by decide +kernel
theorem dX6_scaledSpread_18 : decode cX6_scaledSpread 18 = .ok (.getfield 18, 3) := by decide +kernel
theorem dX6_scaledSpread_21 : decode cX6_scaledSpread 21 = .ok (.iload_n 1, 1) := by decide +kernel
theorem dX6_scaledSpread_22 : decode cX6_scaledSpread 22 = .ok (.laload, 1) := by decide +kernel
theorem dX6_scaledSpread_23 : decode cX6_scaledSpread 23 = .ok (.lsub, 1) := by decide +kernel
theorem dX6_scaledSpread_24 : decode cX6_scaledSpread 24 = .ok (.lstore 4, 2) := by decide +kernel
theorem dX6_scaledSpread_26 : decode cX6_scaledSpread 26 = .ok (.iload_n 3, 1) := by decide +kernel
theorem dX6_scaledSpread_27 : decode cX6_scaledSpread 27 = .ok (.i2l, 1) := by decide +kernel
theorem dX6_scaledSpread_28 : decode cX6_scaledSpread 28 = .ok (.aload_n 0, 1) := by decide +kernel
theorem dX6_scaledSpread_29 : decode cX6_scaledSpread 29 = .ok (.getfield 22, 3) := by decide +kernel
theorem dX6_scaledSpread_32 : decode cX6_scaledSpread 32 = .ok (.iload_n 2, 1) := by decide +kernel
theorem dX6_scaledSpread_33 : decode cX6_scaledSpread 33 = .ok (.laload, 1) := by decide +kernel
theorem dX6_scaledSpread_34 : decode cX6_scaledSpread 34 = .ok (.aload_n 0, 1) := by decide +kernel
theorem dX6_scaledSpread_35 : decode cX6_scaledSpread 35 = .ok (.getfield 22, 3) := by decide +kernel
theorem dX6_scaledSpread_38 : decode cX6_scaledSpread 38 = .ok (.iload_n 1, 1) := by decide +kernel
theorem dX6_scaledSpread_39 : decode cX6_scaledSpread 39 = .ok (.laload, 1) := by decide +kernel
theorem dX6_scaledSpread_40 : decode cX6_scaledSpread 40 = .ok (.lsub, 1) := by decide +kernel
theorem dX6_scaledSpread_41 : decode cX6_scaledSpread 41 = .ok (.lmul, 1) := by decide +kernel
theorem dX6_scaledSpread_42 : decode cX6_scaledSpread 42 = .ok (.lload 4, 2) := by decide +kernel
theorem dX6_scaledSpread_44 : decode cX6_scaledSpread 44 = .ok (.lload 4, 2) := by decide +kernel
theorem dX6_scaledSpread_46 : decode cX6_scaledSpread 46 = .ok (.lmul, 1) := by decide +kernel
theorem dX6_scaledSpread_47 : decode cX6_scaledSpread 47 = .ok (.lsub, 1) := by decide +kernel
theorem dX6_scaledSpread_48 : decode cX6_scaledSpread 48 = .ok (.ldc 46, 2) := by decide +kernel
theorem dX6_scaledSpread_50 : decode cX6_scaledSpread 50 = .ok (.iload_n 3, 1) := by decide +kernel
theorem dX6_scaledSpread_51 : decode cX6_scaledSpread 51 = .ok (.idiv, 1) := by decide +kernel
theorem dX6_scaledSpread_52 : decode cX6_scaledSpread 52 = .ok (.i2l, 1) := by decide +kernel
theorem dX6_scaledSpread_53 : decode cX6_scaledSpread 53 = .ok (.lmul, 1) := by decide +kernel
theorem dX6_scaledSpread_54 : decode cX6_scaledSpread 54 = .ok (.lreturn, 1) := by decide +kernel
theorem dX7_init_0 : decode cX7_init 0 = .ok (.aload_n 0, 1) := by decide +kernel
theorem dX7_init_1 : decode cX7_init 1 = .ok (.invokespecial 3, 3) := by decide +kernel
theorem dX7_init_4 : decode cX7_init 4 = .ok (.aload_n 0, 1) := by decide +kernel
theorem dX7_init_5 : decode cX7_init 5 = .ok (.new 9, 3) := by decide +kernel
theorem dX7_init_8 : decode cX7_init 8 = .ok (.dup, 1) := by decide +kernel
theorem dX7_init_9 : decode cX7_init 9 = .ok (.invokespecial 11, 3) := by decide +kernel
theorem dX7_init_12 : decode cX7_init 12 = .ok (.putfield 12, 3) := by decide +kernel
theorem dX7_init_15 : decode cX7_init 15 = .ok (.aload_n 0, 1) := by decide +kernel
theorem dX7_init_16 : decode cX7_init 16 = .ok (.new 16, 3) := by decide +kernel
theorem dX7_init_19 : decode cX7_init 19 = .ok (.dup, 1) := by decide +kernel
theorem dX7_init_20 : decode cX7_init 20 = .ok (.invokespecial 18, 3) := by decide +kernel
theorem dX7_init_23 : decode cX7_init 23 = .ok (.putfield 19, 3) := by decide +kernel
theorem dX7_init_26 : decode cX7_init 26 = .ok (.aload_n 0, 1) := by decide +kernel
theorem dX7_init_27 : decode cX7_init 27 = .ok (.new 23, 3) := by decide +kernel
theorem dX7_init_30 : decode cX7_init 30 = .ok (.dup, 1) := by decide +kernel
theorem dX7_init_31 : decode cX7_init 31 = .ok (.invokespecial 25, 3) := by decide +kernel
theorem dX7_init_34 : decode cX7_init 34 = .ok (.putfield 26, 3) := by decide +kernel
theorem dX7_init_37 : decode cX7_init 37 = .ok (.aload_n 0, 1) := by decide +kernel
theorem dX7_init_38 : decode cX7_init 38 = .ok (.new 30, 3) := by decide +kernel
theorem dX7_init_41 : decode cX7_init 41 = .ok (.dup, 1) := by decide +kernel
theorem dX7_init_42 : decode cX7_init 42 = .ok (.aload_n 0, 1) := by decide +kernel
theorem dX7_init_43 : decode cX7_init 43 = .ok (.getfield 26, 3) := by decide +kernel
theorem dX7_init_46 : decode cX7_init 46 = .ok (.invokespecial 32, 3) := by decide +kernel
theorem dX7_init_49 : decode cX7_init 49 = .ok (.putfield 35, 3) := by decide +kernel
theorem dX7_init_52 : decode cX7_init 52 = .ok (.aload_n 0, 1) := by decide +kernel
theorem dX7_init_53 : decode cX7_init 53 = .ok (.new 39, 3) := by decide +kernel
theorem dX7_init_56 : decode cX7_init 56 = .ok (.dup, 1) := by decide +kernel
theorem dX7_init_57 : decode cX7_init 57 = .ok (.aload_n 0, 1) := by decide +kernel
theorem dX7_init_58 : decode cX7_init 58 = .ok (.getfield 19, 3) := by decide +kernel
theorem dX7_init_61 : decode cX7_init 61 = .ok (.aload_n 0, 1) := by decide +kernel
theorem dX7_init_62 : decode cX7_init 62 = .ok (.getfield 26, 3) := by decide +kernel
theorem dX7_init_65 : decode cX7_init 65 = .ok (.aload_n 0, 1) := by decide +kernel
theorem dX7_init_66 : decode cX7_init 66 = .ok (.getfield 35, 3) := by decide +kernel
theorem dX7_init_69 : decode cX7_init 69 = .ok (.invokespecial 41, 3) := by decide +kernel
theorem dX7_init_72 : decode cX7_init 72 = .ok (.putfield 44, 3) := by decide +kernel
theorem dX7_init_75 : decode cX7_init 75 = .ok (.aload_n 0, 1) := by decide +kernel
theorem dX7_init_76 : decode cX7_init 76 = .ok (.new 48, 3) := by decide +kernel
theorem dX7_init_79 : decode cX7_init 79 = .ok (.dup, 1) := by decide +kernel
theorem dX7_init_80 : decode cX7_init 80 = .ok (.invokespecial 50, 3) := by decide +kernel
theorem dX7_init_83 : decode cX7_init 83 = .ok (.putfield 51, 3) := by decide +kernel
theorem dX7_init_86 : decode cX7_init 86 = .ok (.aload_n 0, 1) := by decide +kernel
theorem dX7_init_87 : decode cX7_init 87 = .ok (.new 55, 3) := by decide +kernel
theorem dX7_init_90 : decode cX7_init 90 = .ok (.dup, 1) := by decide +kernel
theorem dX7_init_91 : decode cX7_init 91 = .ok (.invokespecial 57, 3) := by decide +kernel
theorem dX7_init_94 : decode cX7_init 94 = .ok (.putfield 58, 3) := by decide +kernel
theorem dX7_init_97 : decode cX7_init 97 = .ok (.iconst 0, 1) := by decide +kernel
theorem dX7_init_98 : decode cX7_init 98 = .ok (.istore_n 1, 1) := by decide +kernel
theorem dX7_init_99 : decode cX7_init 99 = .ok (.iload_n 1, 1) := by decide +kernel
theorem dX7_init_100 : decode cX7_init 100 = .ok (.ldc 62, 2) := by decide +kernel
theorem dX7_init_102 : decode cX7_init 102 = .ok (.invokevirtual 64, 3) := by decide +kernel
theorem dX7_init_105 : decode cX7_init 105 = .ok (.if_icmp .ge 23, 3) := by decide +kernel
theorem dX7_init_108 : decode cX7_init 108 = .ok (.aload_n 0, 1) := by decide +kernel
theorem dX7_init_109 : decode cX7_init 109 = .ok (.getfield 12, 3) := by decide +kernel
theorem dX7_init_112 : decode cX7_init 112 = .ok (.ldc 62, 2) := by decide +kernel
theorem dX7_init_114 : decode cX7_init 114 = .ok (.iload_n 1, 1) := by decide +kernel
theorem dX7_init_115 : decode cX7_init 115 = .ok (.invokevirtual 70, 3) := by decide +kernel
theorem dX7_init_118 : decode cX7_init 118 = .ok (.invokevirtual 74, 3) := by decide +kernel
theorem dX7_init_121 : decode cX7_init 121 = .ok (.pop, 1) := by decide +kernel
theorem dX7_init_122 : decode cX7_init 122 = .ok (.iinc 1 1, 3) := by decide +kernel
theorem dX7_init_125 : decode cX7_init 125 = .ok (.goto (-26), 3) := by decide +kernel
theorem dX7_init_128 : decode cX7_init 128 = .ok (.aload_n 0, 1) := by decide +kernel
theorem dX7_init_129 : decode cX7_init 129 = .ok (.invokevirtual 78, 3) := by decide +kernel
theorem dX7_init_132 : decode cX7_init 132 = .ok (.pop, 1) := by decide +kernel
theorem dX7_init_133 : decode cX7_init 133 = .ok (.aload_n 0, 1) := by decide +kernel
theorem dX7_init_134 : decode cX7_init 134 = .ok (.getfield 12, 3) := by decide +kernel
theorem dX7_init_137 : decode cX7_init 137 = .ok (.invokevirtual 81, 3) := by decide +kernel
theorem dX7_init_140 : decode cX7_init 140 = .ok (.return_, 1) := by decide +kernel
theorem dX7_write_0 : decode cX7_write 0 = .ok (.iload_n 1, 1) := by decide +kernel
theorem dX7_write_1 : decode cX7_write 1 = .ok (.bipush 32, 2) := by decide +kernel
theorem dX7_write_3 : decode cX7_write 3 = .ok (.if_icmp .lt 9, 3) := by decide +kernel
theorem dX7_write_6 : decode cX7_write 6 = .ok (.iload_n 1, 1) := by decide +kernel
theorem dX7_write_7 : decode cX7_write 7 = .ok (.bipush 126, 2) := by decide +kernel
theorem dX7_write_9 : decode cX7_write 9 = .ok (.if_icmp .le 5, 3) := by decide +kernel
theorem dX7_write_12 : decode cX7_write 12 = .ok (.iconst (-1), 1) := by decide +kernel
theorem dX7_write_13 : decode cX7_write 13 = .ok (.ireturn, 1) := by decide +kernel
theorem dX7_write_14 : decode cX7_write 14 = .ok (.aload_n 0, 1) := by decide +kernel
theorem dX7_write_15 : decode cX7_write 15 = .ok (.getfield 12, 3) := by decide +kernel
theorem dX7_write_18 : decode cX7_write 18 = .ok (.iload_n 1, 1) := by decide +kernel
theorem dX7_write_19 : decode cX7_write 19 = .ok (.i2c, 1) := by decide +kernel
theorem dX7_write_20 : decode cX7_write 20 = .ok (.invokevirtual 74, 3) := by decide +kernel
theorem dX7_write_23 : decode cX7_write 23 = .ok (.ifCond .eq 13, 3) := by decide +kernel
theorem dX7_write_26 : decode cX7_write 26 = .ok (.aload_n 0, 1) := by decide +kernel
theorem dX7_write_27 : decode cX7_write 27 = .ok (.getfield 12, 3) := by decide +kernel
theorem dX7_write_30 : decode cX7_write 30 = .ok (.invokevirtual 84, 3) := by decide +kernel
theorem dX7_write_33 : decode cX7_write 33 = .ok (.goto 5, 3) := by decide +kernel
theorem dX7_write_36 : decode cX7_write 36 = .ok (.bipush (-3), 2) := by decide +kernel
theorem dX7_write_38 : decode cX7_write 38 = .ok (.ireturn, 1) := by decide +kernel
theorem dX7_wipe_0 : decode cX7_wipe 0 = .ok (.aload_n 0, 1) := by decide +kernel
theorem dX7_wipe_1 : decode cX7_wipe 1 = .ok (.getfield 12, 3) := by decide +kernel
theorem dX7_wipe_4 : decode cX7_wipe 4 = .ok (.invokevirtual 84, 3) := by decide +kernel
theorem dX7_wipe_7 : decode cX7_wipe 7 = .ok (.istore_n 1, 1) := by decide +kernel
theorem dX7_wipe_8 : decode cX7_wipe 8 = .ok (.aload_n 0, 1) := by decide +kernel
theorem dX7_wipe_9 : decode cX7_wipe 9 = .ok (.getfield 12, 3) := by decide +kernel
theorem dX7_wipe_12 : decode cX7_wipe 12 = .ok (.invokevirtual 81, 3) := by decide +kernel
theorem dX7_wipe_15 : decode cX7_wipe 15 = .ok (.iload_n 1, 1) := by decide +kernel
theorem dX7_wipe_16 : decode cX7_wipe 16 = .ok (.ireturn, 1) := by decide +kernel
theorem dX7_fault_0 : decode cX7_fault 0 = .ok (.aload_n 0, 1) := by decide +kernel
theorem dX7_fault_1 : decode cX7_fault 1 = .ok (.getfield 12, 3) := by decide +kernel
theorem dX7_fault_4 : decode cX7_fault 4 = .ok (.invokevirtual 85, 3) := by decide +kernel
theorem dX7_fault_7 : decode cX7_fault 7 = .ok (.ireturn, 1) := by decide +kernel
theorem dX7_lay_0 : decode cX7_lay 0 = .ok (.aload_n 0, 1) := by decide +kernel
theorem dX7_lay_1 : decode cX7_lay 1 = .ok (.invokevirtual 78, 3) := by decide +kernel
theorem dX7_lay_4 : decode cX7_lay 4 = .ok (.ireturn, 1) := by decide +kernel
theorem dX7_layScript_0 : decode cX7_layScript 0 = .ok (.aload_n 0, 1) := by decide +kernel
theorem dX7_layScript_1 : decode cX7_layScript 1 = .ok (.getfield 12, 3) := by decide +kernel
theorem dX7_layScript_4 : decode cX7_layScript 4 = .ok (.invokevirtual 85, 3) := by decide +kernel
theorem dX7_layScript_7 : decode cX7_layScript 7 = .ok (.bipush (-4), 2) := by decide +kernel
theorem dX7_layScript_9 : decode cX7_layScript 9 = .ok (.if_icmp .ne 17, 3) := by decide +kernel
theorem dX7_layScript_12 : decode cX7_layScript 12 = .ok (.aload_n 0, 1) := by decide +kernel
theorem dX7_layScript_13 : decode cX7_layScript 13 = .ok (.getfield 12, 3) := by decide +kernel
theorem dX7_layScript_16 : decode cX7_layScript 16 = .ok (.invokevirtual 88, 3) := by decide +kernel
theorem dX7_layScript_19 : decode cX7_layScript 19 = .ok (.invokevirtual 92, 3) := by decide +kernel
theorem dX7_layScript_22 : decode cX7_layScript 22 = .ok (.iconst 2, 1) := by decide +kernel
theorem dX7_layScript_23 : decode cX7_layScript 23 = .ok (.if_icmp .ge 6, 3) := by decide +kernel
theorem dX7_layScript_26 : decode cX7_layScript 26 = .ok (.bipush (-2), 2) := by decide +kernel
theorem dX7_layScript_28 : decode cX7_layScript 28 = .ok (.ireturn, 1) := by decide +kernel
theorem dX7_layScript_29 : decode cX7_layScript 29 = .ok (.aload_n 0, 1) := by decide +kernel
theorem dX7_layScript_30 : decode cX7_layScript 30 = .ok (.getfield 19, 3) := by decide +kernel
theorem dX7_layScript_33 : decode cX7_layScript 33 = .ok (.aload_n 0, 1) := by decide +kernel
theorem dX7_layScript_34 : decode cX7_layScript 34 = .ok (.getfield 12, 3) := by decide +kernel
theorem dX7_layScript_37 : decode cX7_layScript 37 = .ok (.invokevirtual 88, 3) := by decide +kernel
theorem dX7_layScript_40 : decode cX7_layScript 40 = .ok (.invokevirtual 95, 3) := by decide +kernel
theorem dX7_layScript_43 : decode cX7_layScript 43 = .ok (.aload_n 0, 1) := by decide +kernel
theorem dX7_layScript_44 : decode cX7_layScript 44 = .ok (.getfield 58, 3) := by decide +kernel
theorem dX7_layScript_47 : decode cX7_layScript 47 = .ok (.invokevirtual 99, 3) := by decide +kernel
theorem dX7_layScript_50 : decode cX7_layScript 50 = .ok (.aload_n 0, 1) := by decide +kernel
theorem dX7_layScript_51 : decode cX7_layScript 51 = .ok (.getfield 51, 3) := by decide +kernel
theorem dX7_layScript_54 : decode cX7_layScript 54 = .ok (.invokevirtual 100, 3) := by decide +kernel
theorem dX7_layScript_57 : decode cX7_layScript 57 = .ok (.aload_n 0, 1) := by decide +kernel
theorem dX7_layScript_58 : decode cX7_layScript 58 = .ok (.getfield 19, 3) := by decide +kernel
theorem dX7_layScript_61 : decode cX7_layScript 61 = .ok (.invokevirtual 92, 3) := by decide +kernel
theorem dX7_layScript_64 : decode cX7_layScript 64 = .ok (.ireturn, 1) := by decide +kernel
theorem dX7_value_0 : decode cX7_value 0 = .ok (.aload_n 0, 1) := by decide +kernel
theorem dX7_value_1 : decode cX7_value 1 = .ok (.getfield 19, 3) := by decide +kernel
theorem dX7_value_4 : decode cX7_value 4 = .ok (.iload_n 1, 1) := by decide +kernel
theorem dX7_value_5 : decode cX7_value 5 = .ok (.iload_n 2, 1) := by decide +kernel
theorem dX7_value_6 : decode cX7_value 6 = .ok (.invokevirtual 101, 3) := by decide +kernel
theorem dX7_value_9 : decode cX7_value 9 = .ok (.ifCond .eq 18, 3) := by decide +kernel
theorem dX7_value_12 : decode cX7_value 12 = .ok (.aload_n 0, 1) := by decide +kernel
theorem dX7_value_13 : decode cX7_value 13 = .ok (.getfield 19, 3) := by decide +kernel
theorem dX7_value_16 : decode cX7_value 16 = .ok (.iload_n 1, 1) := by decide +kernel
theorem dX7_value_17 : decode cX7_value 17 = .ok (.iload_n 2, 1) := by decide +kernel
theorem dX7_value_18 : decode cX7_value 18 = .ok (.invokevirtual 105, 3) := by decide +kernel
theorem dX7_value_21 : decode cX7_value 21 = .ok (.invokestatic 109, 3) := by decide +kernel
theorem dX7_value_24 : decode cX7_value 24 = .ok (.goto 4, 3) := by decide +kernel
theorem dX7_value_27 : decode cX7_value 27 = .ok (.iconst (-1), 1) := by decide +kernel
theorem dX7_value_28 : decode cX7_value 28 = .ok (.ireturn, 1) := by decide +kernel
theorem dX7_shown_0 : decode cX7_shown 0 = .ok (.iload_n 0, 1) := by decide +kernel
theorem dX7_shown_1 : decode cX7_shown 1 = .ok (.ldc 113, 2) := by decide +kernel
theorem dX7_shown_3 : decode cX7_shown 3 = .ok (.if_icmp .ne 8, 3) := by decide +kernel
theorem dX7_shown_6 : decode cX7_shown 6 = .ok (.bipush (-4), 2) := by decide +kernel
theorem dX7_shown_8 : decode cX7_shown 8 = .ok (.goto 7, 3) := by decide +kernel
theorem dX7_shown_11 : decode cX7_shown 11 = .ok (.iload_n 0, 1) := by decide +kernel
theorem dX7_shown_12 : decode cX7_shown 12 = .ok (.ldc 114, 2) := by decide +kernel
theorem dX7_shown_14 : decode cX7_shown 14 = .ok (.iadd, 1) := by decide +kernel
theorem dX7_shown_15 : decode cX7_shown 15 = .ok (.ireturn, 1) := by decide +kernel
theorem dX7_isValue_0 : decode cX7_isValue 0 = .ok (.iload_n 0, 1) := by decide +kernel
theorem dX7_isValue_1 : decode cX7_isValue 1 = .ok (.sipush (-9999), 3) := by decide +kernel
theorem dX7_isValue_4 : decode cX7_isValue 4 = .ok (.if_icmp .lt 14, 3) := by decide +kernel
theorem dX7_isValue_7 : decode cX7_isValue 7 = .ok (.iload_n 0, 1) := by decide +kernel
theorem dX7_isValue_8 : decode cX7_isValue 8 = .ok (.sipush 9999, 3) := by decide +kernel
theorem dX7_isValue_11 : decode cX7_isValue 11 = .ok (.if_icmp .gt 7, 3) := by decide +kernel
theorem dX7_isValue_14 : decode cX7_isValue 14 = .ok (.iconst 1, 1) := by decide +kernel
theorem dX7_isValue_15 : decode cX7_isValue 15 = .ok (.goto 4, 3) := by decide +kernel
theorem dX7_isValue_18 : decode cX7_isValue 18 = .ok (.iconst 0, 1) := by decide +kernel
theorem dX7_isValue_19 : decode cX7_isValue 19 = .ok (.ireturn, 1) := by decide +kernel
theorem dX7_set_0 : decode cX7_set 0 = .ok (.aload_n 0, 1) := by decide +kernel
theorem dX7_set_1 : decode cX7_set 1 = .ok (.getfield 19, 3) := by decide +kernel
theorem dX7_set_4 : decode cX7_set 4 = .ok (.iload_n 1, 1) := by decide +kernel
theorem dX7_set_5 : decode cX7_set 5 = .ok (.iload_n 2, 1) := by decide +kernel
theorem dX7_set_6 : decode cX7_set 6 = .ok (.invokevirtual 101, 3) := by decide +kernel
theorem dX7_set_9 : decode cX7_set 9 = .ok (.ifCond .eq 10, 3) := by decide +kernel
theorem dX7_set_12 : decode cX7_set 12 = .ok (.iload_n 3, 1) := by decide +kernel
theorem dX7_set_13 : decode cX7_set 13 = .ok (.invokestatic 115, 3) := by decide +kernel
theorem dX7_set_16 : decode cX7_set 16 = .ok (.ifCond .ne 5, 3) := by decide +kernel
theorem dX7_set_19 : decode cX7_set 19 = .ok (.iconst (-1), 1) := by decide +kernel
theorem dX7_set_20 : decode cX7_set 20 = .ok (.ireturn, 1) := by decide +kernel
theorem dX7_set_21 : decode cX7_set 21 = .ok (.aload_n 0, 1) := by decide +kernel
theorem dX7_set_22 : decode cX7_set 22 = .ok (.getfield 19, 3) := by decide +kernel
theorem dX7_set_25 : decode cX7_set 25 = .ok (.iload_n 1, 1) := by decide +kernel
theorem dX7_set_26 : decode cX7_set 26 = .ok (.iload_n 2, 1) := by decide +kernel
theorem dX7_set_27 : decode cX7_set 27 = .ok (.invokevirtual 105, 3) := by decide +kernel
theorem dX7_set_30 : decode cX7_set 30 = .ok (.istore 4, 2) := by decide +kernel
theorem dX7_set_32 : decode cX7_set 32 = .ok (.aload_n 0, 1) := by decide +kernel
theorem dX7_set_33 : decode cX7_set 33 = .ok (.iload_n 1, 1) := by decide +kernel
theorem dX7_set_34 : decode cX7_set 34 = .ok (.iload_n 2, 1) := by decide +kernel
theorem dX7_set_35 : decode cX7_set 35 = .ok (.iload_n 3, 1) := by decide +kernel
theorem dX7_set_36 : decode cX7_set 36 = .ok (.invokevirtual 119, 3) := by decide +kernel
theorem dX7_set_39 : decode cX7_set 39 = .ok (.ifCond .eq 11, 3) := by decide +kernel
theorem dX7_set_42 : decode cX7_set 42 = .ok (.iload 4, 2) := by decide +kernel
theorem dX7_set_44 : decode cX7_set 44 = .ok (.invokestatic 109, 3) := by decide +kernel
theorem dX7_set_47 : decode cX7_set 47 = .ok (.goto 5, 3) := by decide +kernel
theorem dX7_set_50 : decode cX7_set 50 = .ok (.bipush (-2), 2) := by decide +kernel
theorem dX7_set_52 : decode cX7_set 52 = .ok (.ireturn, 1) := by decide +kernel
theorem dX7_lose_0 : decode cX7_lose 0 = .ok (.aload_n 0, 1) := by decide +kernel
theorem dX7_lose_1 : decode cX7_lose 1 = .ok (.getfield 19, 3) := by decide +kernel
theorem dX7_lose_4 : decode cX7_lose 4 = .ok (.iload_n 1, 1) := by decide +kernel
theorem dX7_lose_5 : decode cX7_lose 5 = .ok (.iload_n 2, 1) := by decide +kernel
theorem dX7_lose_6 : decode cX7_lose 6 = .ok (.invokevirtual 101, 3) := by decide +kernel
theorem dX7_lose_9 : decode cX7_lose 9 = .ok (.ifCond .ne 5, 3) := by decide +kernel
theorem dX7_lose_12 : decode cX7_lose 12 = .ok (.iconst (-1), 1) := by decide +kernel
theorem dX7_lose_13 : decode cX7_lose 13 = .ok (.ireturn, 1) := by decide +kernel
theorem dX7_lose_14 : decode cX7_lose 14 = .ok (.aload_n 0, 1) := by decide +kernel
theorem dX7_lose_15 : decode cX7_lose 15 = .ok (.getfield 19, 3) := by decide +kernel
theorem dX7_lose_18 : decode cX7_lose 18 = .ok (.iload_n 1, 1) := by decide +kernel
theorem dX7_lose_19 : decode cX7_lose 19 = .ok (.iload_n 2, 1) := by decide +kernel
theorem dX7_lose_20 : decode cX7_lose 20 = .ok (.invokevirtual 105, 3) := by decide +kernel
theorem dX7_lose_23 : decode cX7_lose 23 = .ok (.istore_n 3, 1) := by decide +kernel
theorem dX7_lose_24 : decode cX7_lose 24 = .ok (.aload_n 0, 1) := by decide +kernel
theorem dX7_lose_25 : decode cX7_lose 25 = .ok (.iload_n 1, 1) := by decide +kernel
theorem dX7_lose_26 : decode cX7_lose 26 = .ok (.iload_n 2, 1) := by decide +kernel
theorem dX7_lose_27 : decode cX7_lose 27 = .ok (.ldc 113, 2) := by decide +kernel
theorem dX7_lose_29 : decode cX7_lose 29 = .ok (.invokevirtual 119, 3) := by decide +kernel
theorem dX7_lose_32 : decode cX7_lose 32 = .ok (.ifCond .eq 10, 3) := by decide +kernel
theorem dX7_lose_35 : decode cX7_lose 35 = .ok (.iload_n 3, 1) := by decide +kernel
theorem dX7_lose_36 : decode cX7_lose 36 = .ok (.invokestatic 109, 3) := by decide +kernel
theorem dX7_lose_39 : decode cX7_lose 39 = .ok (.goto 5, 3) := by decide +kernel
theorem dX7_lose_42 : decode cX7_lose 42 = .ok (.bipush (-2), 2) := by decide +kernel
theorem dX7_lose_44 : decode cX7_lose 44 = .ok (.ireturn, 1) := by decide +kernel
theorem dX7_changeValue_0 : decode cX7_changeValue 0 = .ok (.aload_n 0, 1) := by decide +kernel
theorem dX7_changeValue_1 : decode cX7_changeValue 1 = .ok (.getfield 19, 3) := by decide +kernel
theorem dX7_changeValue_4 : decode cX7_changeValue 4 = .ok (.iload_n 1, 1) := by decide +kernel
theorem dX7_changeValue_5 : decode cX7_changeValue 5 = .ok (.iload_n 2, 1) := by decide +kernel
theorem dX7_changeValue_6 : decode cX7_changeValue 6 = .ok (.invokevirtual 105, 3) := by decide +kernel
theorem dX7_changeValue_9 : decode cX7_changeValue 9 = .ok (.istore 4, 2) := by decide +kernel
theorem dX7_changeValue_11 : decode cX7_changeValue 11 = .ok (.iload 4, 2) := by decide +kernel
theorem dX7_changeValue_13 : decode cX7_changeValue 13 = .ok (.iload_n 3, 1) := by decide +kernel
theorem dX7_changeValue_14 : decode cX7_changeValue 14 = .ok (.if_icmp .ne 5, 3) := by decide +kernel
theorem dX7_changeValue_17 : decode cX7_changeValue 17 = .ok (.iconst 0, 1) := by decide +kernel
theorem dX7_changeValue_18 : decode cX7_changeValue 18 = .ok (.ireturn, 1) := by decide +kernel
theorem dX7_changeValue_19 : decode cX7_changeValue 19 = .ok (.aload_n 0, 1) := by decide +kernel
theorem dX7_changeValue_20 : decode cX7_changeValue 20 = .ok (.getfield 51, 3) := by decide +kernel
theorem dX7_changeValue_23 : decode cX7_changeValue 23 = .ok (.iconst 0, 1) := by decide +kernel
theorem dX7_changeValue_24 : decode cX7_changeValue 24 = .ok (.iload_n 1, 1) := by decide +kernel
theorem dX7_changeValue_25 : decode cX7_changeValue 25 = .ok (.iload_n 2, 1) := by decide +kernel
theorem dX7_changeValue_26 : decode cX7_changeValue 26 = .ok (.iload 4, 2) := by decide +kernel
theorem dX7_changeValue_28 : decode cX7_changeValue 28 = .ok (.invokevirtual 123, 3) := by decide +kernel
theorem dX7_changeValue_31 : decode cX7_changeValue 31 = .ok (.aload_n 0, 1) := by decide +kernel
theorem dX7_changeValue_32 : decode cX7_changeValue 32 = .ok (.getfield 19, 3) := by decide +kernel
theorem dX7_changeValue_35 : decode cX7_changeValue 35 = .ok (.iload_n 1, 1) := by decide +kernel
theorem dX7_changeValue_36 : decode cX7_changeValue 36 = .ok (.iload_n 2, 1) := by decide +kernel
theorem dX7_changeValue_37 : decode cX7_changeValue 37 = .ok (.iload_n 3, 1) := by decide +kernel
theorem dX7_changeValue_38 : decode cX7_changeValue 38 = .ok (.invokevirtual 127, 3) := by decide +kernel
theorem dX7_changeValue_41 : decode cX7_changeValue 41 = .ok (.iconst 1, 1) := by decide +kernel
theorem dX7_changeValue_42 : decode cX7_changeValue 42 = .ok (.ireturn, 1) := by decide +kernel
theorem dX7_penalty_0 : decode cX7_penalty 0 = .ok (.iload_n 1, 1) := by decide +kernel
theorem dX7_penalty_1 : decode cX7_penalty 1 = .ok (.invokestatic 131, 3) := by decide +kernel
theorem dX7_penalty_4 : decode cX7_penalty 4 = .ok (.ifCond .ne 5, 3) := by decide +kernel
theorem dX7_penalty_7 : decode cX7_penalty 7 = .ok (.iconst (-1), 1) := by decide +kernel
theorem dX7_penalty_8 : decode cX7_penalty 8 = .ok (.ireturn, 1) := by decide +kernel
theorem dX7_penalty_9 : decode cX7_penalty 9 = .ok (.aload_n 0, 1) := by decide +kernel
theorem dX7_penalty_10 : decode cX7_penalty 10 = .ok (.getfield 19, 3) := by decide +kernel
theorem dX7_penalty_13 : decode cX7_penalty 13 = .ok (.invokevirtual 134, 3) := by decide +kernel
theorem dX7_penalty_16 : decode cX7_penalty 16 = .ok (.istore_n 2, 1) := by decide +kernel
theorem dX7_penalty_17 : decode cX7_penalty 17 = .ok (.iload_n 2, 1) := by decide +kernel
theorem dX7_penalty_18 : decode cX7_penalty 18 = .ok (.iload_n 1, 1) := by decide +kernel
theorem dX7_penalty_19 : decode cX7_penalty 19 = .ok (.if_icmp .ne 6, 3) := by decide +kernel
theorem dX7_penalty_22 : decode cX7_penalty 22 = .ok (.bipush (-2), 2) := by decide +kernel
theorem dX7_penalty_24 : decode cX7_penalty 24 = .ok (.ireturn, 1) := by decide +kernel
theorem dX7_penalty_25 : decode cX7_penalty 25 = .ok (.aload_n 0, 1) := by decide +kernel
theorem dX7_penalty_26 : decode cX7_penalty 26 = .ok (.getfield 51, 3) := by decide +kernel
theorem dX7_penalty_29 : decode cX7_penalty 29 = .ok (.iconst 1, 1) := by decide +kernel
theorem dX7_penalty_30 : decode cX7_penalty 30 = .ok (.iconst 0, 1) := by decide +kernel
theorem dX7_penalty_31 : decode cX7_penalty 31 = .ok (.iconst 0, 1) := by decide +kernel
theorem dX7_penalty_32 : decode cX7_penalty 32 = .ok (.iload_n 2, 1) := by decide +kernel
theorem dX7_penalty_33 : decode cX7_penalty 33 = .ok (.invokevirtual 123, 3) := by decide +kernel
theorem dX7_penalty_36 : decode cX7_penalty 36 = .ok (.aload_n 0, 1) := by decide +kernel
theorem dX7_penalty_37 : decode cX7_penalty 37 = .ok (.getfield 19, 3) := by decide +kernel
theorem dX7_penalty_40 : decode cX7_penalty 40 = .ok (.iload_n 1, 1) := by decide +kernel
theorem dX7_penalty_41 : decode cX7_penalty 41 = .ok (.invokevirtual 137, 3) := by decide +kernel
theorem dX7_penalty_44 : decode cX7_penalty 44 = .ok (.iload_n 2, 1) := by decide +kernel
theorem dX7_penalty_45 : decode cX7_penalty 45 = .ok (.ireturn, 1) := by decide +kernel
theorem dX7_isPenalty_0 : decode cX7_isPenalty 0 = .ok (.iload_n 0, 1) := by decide +kernel
theorem dX7_isPenalty_1 : decode cX7_isPenalty 1 = .ok (.ifCond .lt 13, 3) := by decide +kernel
theorem dX7_isPenalty_4 : decode cX7_isPenalty 4 = .ok (.iload_n 0, 1) := by decide +kernel
theorem dX7_isPenalty_5 : decode cX7_isPenalty 5 = .ok (.ldc 141, 2) := by decide +kernel
theorem dX7_isPenalty_7 : decode cX7_isPenalty 7 = .ok (.if_icmp .gt 7, 3) := by decide +kernel
theorem dX7_isPenalty_10 : decode cX7_isPenalty 10 = .ok (.iconst 1, 1) := by decide +kernel
theorem dX7_isPenalty_11 : decode cX7_isPenalty 11 = .ok (.goto 4, 3) := by decide +kernel
theorem dX7_isPenalty_14 : decode cX7_isPenalty 14 = .ok (.iconst 0, 1) := by decide +kernel
theorem dX7_isPenalty_15 : decode cX7_isPenalty 15 = .ok (.ireturn, 1) := by decide +kernel
theorem dX7_rule_0 : decode cX7_rule 0 = .ok (.iload_n 1, 1) := by decide +kernel
theorem dX7_rule_1 : decode cX7_rule 1 = .ok (.iload_n 2, 1) := by decide +kernel
theorem dX7_rule_2 : decode cX7_rule 2 = .ok (.invokestatic 142, 3) := by decide +kernel
theorem dX7_rule_5 : decode cX7_rule 5 = .ok (.ifCond .ne 5, 3) := by decide +kernel
theorem dX7_rule_8 : decode cX7_rule 8 = .ok (.iconst (-1), 1) := by decide +kernel
theorem dX7_rule_9 : decode cX7_rule 9 = .ok (.ireturn, 1) := by decide +kernel
theorem dX7_rule_10 : decode cX7_rule 10 = .ok (.aload_n 0, 1) := by decide +kernel
theorem dX7_rule_11 : decode cX7_rule 11 = .ok (.getfield 19, 3) := by decide +kernel
theorem dX7_rule_14 : decode cX7_rule 14 = .ok (.iload_n 1, 1) := by decide +kernel
theorem dX7_rule_15 : decode cX7_rule 15 = .ok (.invokevirtual 145, 3) := by decide +kernel
theorem dX7_rule_18 : decode cX7_rule 18 = .ok (.istore_n 3, 1) := by decide +kernel
theorem dX7_rule_19 : decode cX7_rule 19 = .ok (.iload_n 3, 1) := by decide +kernel
theorem dX7_rule_20 : decode cX7_rule 20 = .ok (.iload_n 2, 1) := by decide +kernel
theorem dX7_rule_21 : decode cX7_rule 21 = .ok (.if_icmp .ne 6, 3) := by decide +kernel
theorem dX7_rule_24 : decode cX7_rule 24 = .ok (.bipush (-2), 2) := by decide +kernel
theorem dX7_rule_26 : decode cX7_rule 26 = .ok (.ireturn, 1) := by decide +kernel
theorem dX7_rule_27 : decode cX7_rule 27 = .ok (.aload_n 0, 1) := by decide +kernel
theorem dX7_rule_28 : decode cX7_rule 28 = .ok (.getfield 51, 3) := by decide +kernel
theorem dX7_rule_31 : decode cX7_rule 31 = .ok (.iconst 2, 1) := by decide +kernel
theorem dX7_rule_32 : decode cX7_rule 32 = .ok (.iload_n 1, 1) := by decide +kernel
theorem dX7_rule_33 : decode cX7_rule 33 = .ok (.iconst 0, 1) := by decide +kernel
theorem dX7_rule_34 : decode cX7_rule 34 = .ok (.iload_n 3, 1) := by decide +kernel
theorem dX7_rule_35 : decode cX7_rule 35 = .ok (.invokevirtual 123, 3) := by decide +kernel
theorem dX7_rule_38 : decode cX7_rule 38 = .ok (.aload_n 0, 1) := by decide +kernel
theorem dX7_rule_39 : decode cX7_rule 39 = .ok (.getfield 19, 3) := by decide +kernel
theorem dX7_rule_42 : decode cX7_rule 42 = .ok (.iload_n 1, 1) := by decide +kernel
theorem dX7_rule_43 : decode cX7_rule 43 = .ok (.iload_n 2, 1) := by decide +kernel
theorem dX7_rule_44 : decode cX7_rule 44 = .ok (.invokevirtual 148, 3) := by decide +kernel
theorem dX7_rule_47 : decode cX7_rule 47 = .ok (.iload_n 3, 1) := by decide +kernel
theorem dX7_rule_48 : decode cX7_rule 48 = .ok (.ireturn, 1) := by decide +kernel
theorem dX7_isRule_0 : decode cX7_isRule 0 = .ok (.iload_n 0, 1) := by decide +kernel
theorem dX7_isRule_1 : decode cX7_isRule 1 = .ok (.ifCond .lt 30, 3) := by decide +kernel
theorem dX7_isRule_4 : decode cX7_isRule 4 = .ok (.iload_n 0, 1) := by decide +kernel
theorem dX7_isRule_5 : decode cX7_isRule 5 = .ok (.iconst 4, 1) := by decide +kernel
theorem dX7_isRule_6 : decode cX7_isRule 6 = .ok (.if_icmp .ge 25, 3) := by decide +kernel
theorem dX7_isRule_9 : decode cX7_isRule 9 = .ok (.iload_n 1, 1) := by decide +kernel
theorem dX7_isRule_10 : decode cX7_isRule 10 = .ok (.getstatic 152, 3) := by decide +kernel
theorem dX7_isRule_13 : decode cX7_isRule 13 = .ok (.iload_n 0, 1) := by decide +kernel
theorem dX7_isRule_14 : decode cX7_isRule 14 = .ok (.iaload, 1) := by decide +kernel
theorem dX7_isRule_15 : decode cX7_isRule 15 = .ok (.if_icmp .lt 16, 3) := by decide +kernel
theorem dX7_isRule_18 : decode cX7_isRule 18 = .ok (.iload_n 1, 1) := by decide +kernel
theorem dX7_isRule_19 : decode cX7_isRule 19 = .ok (.getstatic 156, 3) := by decide +kernel
theorem dX7_isRule_22 : decode cX7_isRule 22 = .ok (.iload_n 0, 1) := by decide +kernel
theorem dX7_isRule_23 : decode cX7_isRule 23 = .ok (.iaload, 1) := by decide +kernel
theorem dX7_isRule_24 : decode cX7_isRule 24 = .ok (.if_icmp .gt 7, 3) := by decide +kernel
theorem dX7_isRule_27 : decode cX7_isRule 27 = .ok (.iconst 1, 1) := by decide +kernel
theorem dX7_isRule_28 : decode cX7_isRule 28 = .ok (.goto 4, 3) := by decide +kernel
theorem dX7_isRule_31 : decode cX7_isRule 31 = .ok (.iconst 0, 1) := by decide +kernel
theorem dX7_isRule_32 : decode cX7_isRule 32 = .ok (.ireturn, 1) := by decide +kernel
theorem dX7_undo_0 : decode cX7_undo 0 = .ok (.aload_n 0, 1) := by decide +kernel
theorem dX7_undo_1 : decode cX7_undo 1 = .ok (.getfield 51, 3) := by decide +kernel
theorem dX7_undo_4 : decode cX7_undo 4 = .ok (.invokevirtual 159, 3) := by decide +kernel
theorem dX7_undo_7 : decode cX7_undo 7 = .ok (.ifCond .ne 6, 3) := by decide +kernel
theorem dX7_undo_10 : decode cX7_undo 10 = .ok (.bipush (-2), 2) := by decide +kernel
theorem dX7_undo_12 : decode cX7_undo 12 = .ok (.ireturn, 1) := by decide +kernel
theorem dX7_undo_13 : decode cX7_undo 13 = .ok (.aload_n 0, 1) := by decide +kernel
theorem dX7_undo_14 : decode cX7_undo 14 = .ok (.getfield 51, 3) := by decide +kernel
theorem dX7_undo_17 : decode cX7_undo 17 = .ok (.iconst 1, 1) := by decide +kernel
theorem dX7_undo_18 : decode cX7_undo 18 = .ok (.invokevirtual 160, 3) := by decide +kernel
theorem dX7_undo_21 : decode cX7_undo 21 = .ok (.istore_n 1, 1) := by decide +kernel
theorem dX7_undo_22 : decode cX7_undo 22 = .ok (.aload_n 0, 1) := by decide +kernel
theorem dX7_undo_23 : decode cX7_undo 23 = .ok (.getfield 51, 3) := by decide +kernel
theorem dX7_undo_26 : decode cX7_undo 26 = .ok (.iconst 2, 1) := by decide +kernel
theorem dX7_undo_27 : decode cX7_undo 27 = .ok (.invokevirtual 160, 3) := by decide +kernel
theorem dX7_undo_30 : decode cX7_undo 30 = .ok (.istore_n 2, 1) := by decide +kernel
theorem dX7_undo_31 : decode cX7_undo 31 = .ok (.aload_n 0, 1) := by decide +kernel
theorem dX7_undo_32 : decode cX7_undo 32 = .ok (.getfield 51, 3) := by decide +kernel
theorem dX7_undo_35 : decode cX7_undo 35 = .ok (.iconst 3, 1) := by decide +kernel
theorem dX7_undo_36 : decode cX7_undo 36 = .ok (.invokevirtual 160, 3) := by decide +kernel
theorem dX7_undo_39 : decode cX7_undo 39 = .ok (.istore_n 3, 1) := by decide +kernel
theorem dX7_undo_40 : decode cX7_undo 40 = .ok (.aload_n 0, 1) := by decide +kernel
theorem dX7_undo_41 : decode cX7_undo 41 = .ok (.getfield 51, 3) := by decide +kernel
theorem dX7_undo_44 : decode cX7_undo 44 = .ok (.iconst 0, 1) := by decide +kernel
theorem dX7_undo_45 : decode cX7_undo 45 = .ok (.invokevirtual 160, 3) := by decide +kernel
theorem dX7_undo_48 : decode cX7_undo 48 = .ok (.tableswitch 64 0 2 #[28, 41, 52], 28) := by decide +kernel
theorem dX7_undo_76 : decode cX7_undo 76 = .ok (.aload_n 0, 1) := by decide +kernel
theorem dX7_undo_77 : decode cX7_undo 77 = .ok (.getfield 19, 3) := by decide +kernel
theorem dX7_undo_80 : decode cX7_undo 80 = .ok (.iload_n 1, 1) := by decide +kernel
theorem dX7_undo_81 : decode cX7_undo 81 = .ok (.iload_n 2, 1) := by decide +kernel
theorem dX7_undo_82 : decode cX7_undo 82 = .ok (.iload_n 3, 1) := by decide +kernel
theorem dX7_undo_83 : decode cX7_undo 83 = .ok (.invokevirtual 127, 3) := by decide +kernel
theorem dX7_undo_86 : decode cX7_undo 86 = .ok (.goto 44, 3) := by decide +kernel
theorem dX7_undo_89 : decode cX7_undo 89 = .ok (.aload_n 0, 1) := by decide +kernel
theorem dX7_undo_90 : decode cX7_undo 90 = .ok (.getfield 19, 3) := by decide +kernel
theorem dX7_undo_93 : decode cX7_undo 93 = .ok (.iload_n 3, 1) := by decide +kernel
theorem dX7_undo_94 : decode cX7_undo 94 = .ok (.invokevirtual 137, 3) := by decide +kernel
theorem dX7_undo_97 : decode cX7_undo 97 = .ok (.goto 33, 3) := by decide +kernel
theorem dX7_undo_100 : decode cX7_undo 100 = .ok (.aload_n 0, 1) := by decide +kernel
theorem dX7_undo_101 : decode cX7_undo 101 = .ok (.getfield 19, 3) := by decide +kernel
theorem dX7_undo_104 : decode cX7_undo 104 = .ok (.iload_n 1, 1) := by decide +kernel
theorem dX7_undo_105 : decode cX7_undo 105 = .ok (.iload_n 3, 1) := by decide +kernel
theorem dX7_undo_106 : decode cX7_undo 106 = .ok (.invokevirtual 148, 3) := by decide +kernel
theorem dX7_undo_109 : decode cX7_undo 109 = .ok (.goto 21, 3) := by decide +kernel
theorem dX7_undo_112 : decode cX7_undo 112 = .ok (.aload_n 0, 1) := by decide +kernel
theorem dX7_undo_113 : decode cX7_undo 113 = .ok (.getfield 19, 3) := by decide +kernel
theorem dX7_undo_116 : decode cX7_undo 116 = .ok (.iload_n 1, 1) := by decide +kernel
theorem dX7_undo_117 : decode cX7_undo 117 = .ok (.iload_n 2, 1) := by decide +kernel
theorem dX7_undo_118 : decode cX7_undo 118 = .ok (.iload_n 3, 1) := by decide +kernel
theorem dX7_undo_119 : decode cX7_undo 119 = .ok (.ineg, 1) := by decide +kernel
theorem dX7_undo_120 : decode cX7_undo 120 = .ok (.invokevirtual 163, 3) := by decide +kernel
theorem dX7_undo_123 : decode cX7_undo 123 = .ok (.aload_n 0, 1) := by decide +kernel
theorem dX7_undo_124 : decode cX7_undo 124 = .ok (.getfield 58, 3) := by decide +kernel
theorem dX7_undo_127 : decode cX7_undo 127 = .ok (.invokevirtual 166, 3) := by decide +kernel
theorem dX7_undo_130 : decode cX7_undo 130 = .ok (.aload_n 0, 1) := by decide +kernel
theorem dX7_undo_131 : decode cX7_undo 131 = .ok (.getfield 51, 3) := by decide +kernel
theorem dX7_undo_134 : decode cX7_undo 134 = .ok (.invokevirtual 169, 3) := by decide +kernel
theorem dX7_undo_137 : decode cX7_undo 137 = .ok (.aload_n 0, 1) := by decide +kernel
theorem dX7_undo_138 : decode cX7_undo 138 = .ok (.getfield 51, 3) := by decide +kernel
theorem dX7_undo_141 : decode cX7_undo 141 = .ok (.invokevirtual 159, 3) := by decide +kernel
theorem dX7_undo_144 : decode cX7_undo 144 = .ok (.ireturn, 1) := by decide +kernel
theorem dX7_day_0 : decode cX7_day 0 = .ok (.iload_n 1, 1) := by decide +kernel
theorem dX7_day_1 : decode cX7_day 1 = .ok (.ifCond .lt 21, 3) := by decide +kernel
theorem dX7_day_4 : decode cX7_day 4 = .ok (.iload_n 1, 1) := by decide +kernel
theorem dX7_day_5 : decode cX7_day 5 = .ok (.sipush 9999, 3) := by decide +kernel
theorem dX7_day_8 : decode cX7_day 8 = .ok (.if_icmp .gt 14, 3) := by decide +kernel
theorem dX7_day_11 : decode cX7_day 11 = .ok (.iload_n 2, 1) := by decide +kernel
theorem dX7_day_12 : decode cX7_day 12 = .ok (.iconst 1, 1) := by decide +kernel
theorem dX7_day_13 : decode cX7_day 13 = .ok (.if_icmp .lt 9, 3) := by decide +kernel
theorem dX7_day_16 : decode cX7_day 16 = .ok (.iload_n 2, 1) := by decide +kernel
theorem dX7_day_17 : decode cX7_day 17 = .ok (.bipush 20, 2) := by decide +kernel
theorem dX7_day_19 : decode cX7_day 19 = .ok (.if_icmp .le 5, 3) := by decide +kernel
theorem dX7_day_22 : decode cX7_day 22 = .ok (.iconst (-1), 1) := by decide +kernel
theorem dX7_day_23 : decode cX7_day 23 = .ok (.ireturn, 1) := by decide +kernel
theorem dX7_day_24 : decode cX7_day 24 = .ok (.iconst 0, 1) := by decide +kernel
theorem dX7_day_25 : decode cX7_day 25 = .ok (.istore_n 3, 1) := by decide +kernel
theorem dX7_day_26 : decode cX7_day 26 = .ok (.iconst 0, 1) := by decide +kernel
theorem dX7_day_27 : decode cX7_day 27 = .ok (.istore 4, 2) := by decide +kernel
theorem dX7_day_29 : decode cX7_day 29 = .ok (.iload 4, 2) := by decide +kernel
theorem dX7_day_31 : decode cX7_day 31 = .ok (.iload_n 2, 1) := by decide +kernel
theorem dX7_day_32 : decode cX7_day 32 = .ok (.if_icmp .ge 109, 3) := by decide +kernel
theorem dX7_day_35 : decode cX7_day 35 = .ok (.ldc2_w 172, 3) := by decide +kernel
theorem dX7_day_38 : decode cX7_day 38 = .ok (.iload_n 1, 1) := by decide +kernel
theorem dX7_day_39 : decode cX7_day 39 = .ok (.i2l, 1) := by decide +kernel
theorem dX7_day_40 : decode cX7_day 40 = .ok (.lmul, 1) := by decide +kernel
theorem dX7_day_41 : decode cX7_day 41 = .ok (.ldc2_w 174, 3) := by decide +kernel
theorem dX7_day_44 : decode cX7_day 44 = .ok (.iload 4, 2) := by decide +kernel
theorem dX7_day_46 : decode cX7_day 46 = .ok (.i2l, 1) := by decide +kernel
theorem dX7_day_47 : decode cX7_day 47 = .ok (.lmul, 1) := by decide +kernel
theorem dX7_day_48 : decode cX7_day 48 = .ok (.ladd, 1) := by decide +kernel
theorem dX7_day_49 : decode cX7_day 49 = .ok (.lconst 1, 1) := by decide +kernel
theorem dX7_day_50 : decode cX7_day 50 = .ok (.ladd, 1) := by decide +kernel
theorem dX7_day_51 : decode cX7_day 51 = .ok (.lstore 5, 2) := by decide +kernel
theorem dX7_day_53 : decode cX7_day 53 = .ok (.lload 5, 2) := by decide +kernel
theorem dX7_day_55 : decode cX7_day 55 = .ok (.lload 5, 2) := by decide +kernel
theorem dX7_day_57 : decode cX7_day 57 = .ok (.lmul, 1) := by decide +kernel
theorem dX7_day_58 : decode cX7_day 58 = .ok (.ldc2_w 176, 3) := by decide +kernel
theorem dX7_day_61 : decode cX7_day 61 = .ok (.lrem, 1) := by decide +kernel
theorem dX7_day_62 : decode cX7_day 62 = .ok (.l2i, 1) := by decide +kernel
theorem dX7_day_63 : decode cX7_day 63 = .ok (.istore 7, 2) := by decide +kernel
theorem dX7_day_65 : decode cX7_day 65 = .ok (.iload 7, 2) := by decide +kernel
theorem dX7_day_67 : decode cX7_day 67 = .ok (.sipush 128, 3) := by decide +kernel
theorem dX7_day_70 : decode cX7_day 70 = .ok (.idiv, 1) := by decide +kernel
theorem dX7_day_71 : decode cX7_day 71 = .ok (.bipush 30, 2) := by decide +kernel
theorem dX7_day_73 : decode cX7_day 73 = .ok (.irem, 1) := by decide +kernel
theorem dX7_day_74 : decode cX7_day 74 = .ok (.istore 8, 2) := by decide +kernel
theorem dX7_day_76 : decode cX7_day 76 = .ok (.iload 7, 2) := by decide +kernel
theorem dX7_day_78 : decode cX7_day 78 = .ok (.aload_n 0, 1) := by decide +kernel
theorem dX7_day_79 : decode cX7_day 79 = .ok (.getfield 19, 3) := by decide +kernel
theorem dX7_day_82 : decode cX7_day 82 = .ok (.invokevirtual 92, 3) := by decide +kernel
theorem dX7_day_85 : decode cX7_day 85 = .ok (.invokestatic 178, 3) := by decide +kernel
theorem dX7_day_88 : decode cX7_day 88 = .ok (.istore 9, 2) := by decide +kernel
theorem dX7_day_90 : decode cX7_day 90 = .ok (.iload 7, 2) := by decide +kernel
theorem dX7_day_92 : decode cX7_day 92 = .ok (.bipush 8, 2) := by decide +kernel
theorem dX7_day_94 : decode cX7_day 94 = .ok (.idiv, 1) := by decide +kernel
theorem dX7_day_95 : decode cX7_day 95 = .ok (.aload_n 0, 1) := by decide +kernel
theorem dX7_day_96 : decode cX7_day 96 = .ok (.getfield 19, 3) := by decide +kernel
theorem dX7_day_99 : decode cX7_day 99 = .ok (.invokevirtual 181, 3) := by decide +kernel
theorem dX7_day_102 : decode cX7_day 102 = .ok (.invokestatic 178, 3) := by decide +kernel
theorem dX7_day_105 : decode cX7_day 105 = .ok (.istore 10, 2) := by decide +kernel
theorem dX7_day_107 : decode cX7_day 107 = .ok (.aload_n 0, 1) := by decide +kernel
theorem dX7_day_108 : decode cX7_day 108 = .ok (.iload 9, 2) := by decide +kernel
theorem dX7_day_110 : decode cX7_day 110 = .ok (.iload 10, 2) := by decide +kernel
theorem dX7_day_112 : decode cX7_day 112 = .ok (.iload 8, 2) := by decide +kernel
theorem dX7_day_114 : decode cX7_day 114 = .ok (.bipush 29, 2) := by decide +kernel
theorem dX7_day_116 : decode cX7_day 116 = .ok (.if_icmp .ne 8, 3) := by decide +kernel
theorem dX7_day_119 : decode cX7_day 119 = .ok (.ldc 113, 2) := by decide +kernel
theorem dX7_day_121 : decode cX7_day 121 = .ok (.goto 5, 3) := by decide +kernel
theorem dX7_day_124 : decode cX7_day 124 = .ok (.iload 8, 2) := by decide +kernel
theorem dX7_day_126 : decode cX7_day 126 = .ok (.invokevirtual 119, 3) := by decide +kernel
theorem dX7_day_129 : decode cX7_day 129 = .ok (.ifCond .eq 6, 3) := by decide +kernel
theorem dX7_day_132 : decode cX7_day 132 = .ok (.iinc 3 1, 3) := by decide +kernel
theorem dX7_day_135 : decode cX7_day 135 = .ok (.iinc 4 1, 3) := by decide +kernel
theorem dX7_day_138 : decode cX7_day 138 = .ok (.goto (-109), 3) := by decide +kernel
theorem dX7_day_141 : decode cX7_day 141 = .ok (.iload_n 3, 1) := by decide +kernel
theorem dX7_day_142 : decode cX7_day 142 = .ok (.ireturn, 1) := by decide +kernel
theorem dX7_remainder_0 : decode cX7_remainder 0 = .ok (.iload_n 1, 1) := by decide +kernel
theorem dX7_remainder_1 : decode cX7_remainder 1 = .ok (.iconst 1, 1) := by decide +kernel
theorem dX7_remainder_2 : decode cX7_remainder 2 = .ok (.if_icmp .ge 7, 3) := by decide +kernel
theorem dX7_remainder_5 : decode cX7_remainder 5 = .ok (.iconst 0, 1) := by decide +kernel
theorem dX7_remainder_6 : decode cX7_remainder 6 = .ok (.goto 6, 3) := by decide +kernel
theorem dX7_remainder_9 : decode cX7_remainder 9 = .ok (.iload_n 0, 1) := by decide +kernel
theorem dX7_remainder_10 : decode cX7_remainder 10 = .ok (.iload_n 1, 1) := by decide +kernel
theorem dX7_remainder_11 : decode cX7_remainder 11 = .ok (.irem, 1) := by decide +kernel
theorem dX7_remainder_12 : decode cX7_remainder 12 = .ok (.ireturn, 1) := by decide +kernel
theorem dX7_nearest_0 : decode cX7_nearest 0 = .ok (.aload_n 0, 1) := by decide +kernel
theorem dX7_nearest_1 : decode cX7_nearest 1 = .ok (.getfield 19, 3) := by decide +kernel
theorem dX7_nearest_4 : decode cX7_nearest 4 = .ok (.iload_n 1, 1) := by decide +kernel
theorem dX7_nearest_5 : decode cX7_nearest 5 = .ok (.invokevirtual 184, 3) := by decide +kernel
theorem dX7_nearest_8 : decode cX7_nearest 8 = .ok (.ifCond .eq 7, 3) := by decide +kernel
theorem dX7_nearest_11 : decode cX7_nearest 11 = .ok (.iload_n 2, 1) := by decide +kernel
theorem dX7_nearest_12 : decode cX7_nearest 12 = .ok (.ifCond .ge 5, 3) := by decide +kernel
theorem dX7_nearest_15 : decode cX7_nearest 15 = .ok (.iconst (-1), 1) := by decide +kernel
theorem dX7_nearest_16 : decode cX7_nearest 16 = .ok (.ireturn, 1) := by decide +kernel
theorem dX7_nearest_17 : decode cX7_nearest 17 = .ok (.iconst 0, 1) := by decide +kernel
theorem dX7_nearest_18 : decode cX7_nearest 18 = .ok (.istore_n 3, 1) := by decide +kernel
theorem dX7_nearest_19 : decode cX7_nearest 19 = .ok (.iload_n 3, 1) := by decide +kernel
theorem dX7_nearest_20 : decode cX7_nearest 20 = .ok (.aload_n 0, 1) := by decide +kernel
theorem dX7_nearest_21 : decode cX7_nearest 21 = .ok (.getfield 19, 3) := by decide +kernel
theorem dX7_nearest_24 : decode cX7_nearest 24 = .ok (.invokevirtual 92, 3) := by decide +kernel
theorem dX7_nearest_27 : decode cX7_nearest 27 = .ok (.if_icmp .ge 29, 3) := by decide +kernel
theorem dX7_nearest_30 : decode cX7_nearest 30 = .ok (.iload_n 3, 1) := by decide +kernel
theorem dX7_nearest_31 : decode cX7_nearest 31 = .ok (.iload_n 1, 1) := by decide +kernel
theorem dX7_nearest_32 : decode cX7_nearest 32 = .ok (.if_icmp .eq 18, 3) := by decide +kernel
theorem dX7_nearest_35 : decode cX7_nearest 35 = .ok (.aload_n 0, 1) := by decide +kernel
theorem dX7_nearest_36 : decode cX7_nearest 36 = .ok (.getfield 19, 3) := by decide +kernel
theorem dX7_nearest_39 : decode cX7_nearest 39 = .ok (.iload_n 1, 1) := by decide +kernel
theorem dX7_nearest_40 : decode cX7_nearest 40 = .ok (.iload_n 3, 1) := by decide +kernel
theorem dX7_nearest_41 : decode cX7_nearest 41 = .ok (.invokevirtual 187, 3) := by decide +kernel
theorem dX7_nearest_44 : decode cX7_nearest 44 = .ok (.iload_n 2, 1) := by decide +kernel
theorem dX7_nearest_45 : decode cX7_nearest 45 = .ok (.if_icmp .ne 5, 3) := by decide +kernel
theorem dX7_nearest_48 : decode cX7_nearest 48 = .ok (.iload_n 3, 1) := by decide +kernel
theorem dX7_nearest_49 : decode cX7_nearest 49 = .ok (.ireturn, 1) := by decide +kernel
theorem dX7_nearest_50 : decode cX7_nearest 50 = .ok (.iinc 3 1, 3) := by decide +kernel
theorem dX7_nearest_53 : decode cX7_nearest 53 = .ok (.goto (-34), 3) := by decide +kernel
theorem dX7_nearest_56 : decode cX7_nearest 56 = .ok (.bipush (-4), 2) := by decide +kernel
theorem dX7_nearest_58 : decode cX7_nearest 58 = .ok (.ireturn, 1) := by decide +kernel
theorem dX7_pair_0 : decode cX7_pair 0 = .ok (.aload_n 0, 1) := by decide +kernel
theorem dX7_pair_1 : decode cX7_pair 1 = .ok (.iload_n 1, 1) := by decide +kernel
theorem dX7_pair_2 : decode cX7_pair 2 = .ok (.iload_n 2, 1) := by decide +kernel
theorem dX7_pair_3 : decode cX7_pair 3 = .ok (.invokevirtual 190, 3) := by decide +kernel
theorem dX7_pair_6 : decode cX7_pair 6 = .ok (.ifCond .ne 5, 3) := by decide +kernel
theorem dX7_pair_9 : decode cX7_pair 9 = .ok (.iconst (-1), 1) := by decide +kernel
theorem dX7_pair_10 : decode cX7_pair 10 = .ok (.ireturn, 1) := by decide +kernel
theorem dX7_pair_11 : decode cX7_pair 11 = .ok (.aload_n 0, 1) := by decide +kernel
theorem dX7_pair_12 : decode cX7_pair 12 = .ok (.getfield 19, 3) := by decide +kernel
theorem dX7_pair_15 : decode cX7_pair 15 = .ok (.iload_n 1, 1) := by decide +kernel
theorem dX7_pair_16 : decode cX7_pair 16 = .ok (.iload_n 2, 1) := by decide +kernel
theorem dX7_pair_17 : decode cX7_pair 17 = .ok (.invokevirtual 193, 3) := by decide +kernel
theorem dX7_pair_20 : decode cX7_pair 20 = .ok (.ifCond .eq 7, 3) := by decide +kernel
theorem dX7_pair_23 : decode cX7_pair 23 = .ok (.iconst 1, 1) := by decide +kernel
theorem dX7_pair_24 : decode cX7_pair 24 = .ok (.goto 4, 3) := by decide +kernel
theorem dX7_pair_27 : decode cX7_pair 27 = .ok (.iconst 0, 1) := by decide +kernel
theorem dX7_pair_28 : decode cX7_pair 28 = .ok (.ireturn, 1) := by decide +kernel
theorem dX7_areTwoStations_0 : decode cX7_areTwoStations 0 = .ok (.aload_n 0, 1) := by decide +kernel
theorem dX7_areTwoStations_1 : decode cX7_areTwoStations 1 = .ok (.getfield 19, 3) := by decide +kernel
theorem dX7_areTwoStations_4 : decode cX7_areTwoStations 4 = .ok (.iload_n 1, 1) := by decide +kernel
theorem dX7_areTwoStations_5 : decode cX7_areTwoStations 5 = .ok (.invokevirtual 184, 3) := by decide +kernel
theorem dX7_areTwoStations_8 : decode cX7_areTwoStations 8 = .ok (.ifCond .eq 23, 3) := by decide +kernel
theorem dX7_areTwoStations_11 : decode cX7_areTwoStations 11 = .ok (.aload_n 0, 1) := by decide +kernel
theorem dX7_areTwoStations_12 : decode cX7_areTwoStations 12 = .ok (.getfield 19, 3) := by decide +kernel
theorem dX7_areTwoStations_15 : decode cX7_areTwoStations 15 = .ok (.iload_n 2, 1) := by decide +kernel
theorem dX7_areTwoStations_16 : decode cX7_areTwoStations 16 = .ok (.invokevirtual 184, 3) := by decide +kernel
theorem dX7_areTwoStations_19 : decode cX7_areTwoStations 19 = .ok (.ifCond .eq 12, 3) := by decide +kernel
theorem dX7_areTwoStations_22 : decode cX7_areTwoStations 22 = .ok (.iload_n 1, 1) := by decide +kernel
theorem dX7_areTwoStations_23 : decode cX7_areTwoStations 23 = .ok (.iload_n 2, 1) := by decide +kernel
theorem dX7_areTwoStations_24 : decode cX7_areTwoStations 24 = .ok (.if_icmp .eq 7, 3) := by decide +kernel
theorem dX7_areTwoStations_27 : decode cX7_areTwoStations 27 = .ok (.iconst 1, 1) := by decide +kernel
theorem dX7_areTwoStations_28 : decode cX7_areTwoStations 28 = .ok (.goto 4, 3) := by decide +kernel
theorem dX7_areTwoStations_31 : decode cX7_areTwoStations 31 = .ok (.iconst 0, 1) := by decide +kernel
theorem dX7_areTwoStations_32 : decode cX7_areTwoStations 32 = .ok (.ireturn, 1) := by decide +kernel
theorem dX7_entry_0 : decode cX7_entry 0 = .ok (.aload_n 0, 1) := by decide +kernel
theorem dX7_entry_1 : decode cX7_entry 1 = .ok (.iload_n 1, 1) := by decide +kernel
theorem dX7_entry_2 : decode cX7_entry 2 = .ok (.iload_n 2, 1) := by decide +kernel
theorem dX7_entry_3 : decode cX7_entry 3 = .ok (.invokevirtual 190, 3) := by decide +kernel
theorem dX7_entry_6 : decode cX7_entry 6 = .ok (.ifCond .eq 8, 3) := by decide +kernel
theorem dX7_entry_9 : decode cX7_entry 9 = .ok (.iload_n 3, 1) := by decide +kernel
theorem dX7_entry_10 : decode cX7_entry 10 = .ok (.iconst (-1), 1) := by decide +kernel
theorem dX7_entry_11 : decode cX7_entry 11 = .ok (.if_icmp .ge 5, 3) := by decide +kernel
theorem dX7_entry_14 : decode cX7_entry 14 = .ok (.iconst (-1), 1) := by decide +kernel
theorem dX7_entry_15 : decode cX7_entry 15 = .ok (.ireturn, 1) := by decide +kernel
theorem dX7_entry_16 : decode cX7_entry 16 = .ok (.aload_n 0, 1) := by decide +kernel
theorem dX7_entry_17 : decode cX7_entry 17 = .ok (.getfield 26, 3) := by decide +kernel
theorem dX7_entry_20 : decode cX7_entry 20 = .ok (.aload_n 0, 1) := by decide +kernel
theorem dX7_entry_21 : decode cX7_entry 21 = .ok (.getfield 19, 3) := by decide +kernel
theorem dX7_entry_24 : decode cX7_entry 24 = .ok (.iload_n 1, 1) := by decide +kernel
theorem dX7_entry_25 : decode cX7_entry 25 = .ok (.iload_n 2, 1) := by decide +kernel
theorem dX7_entry_26 : decode cX7_entry 26 = .ok (.invokevirtual 196, 3) := by decide +kernel
theorem dX7_entry_29 : decode cX7_entry 29 = .ok (.iload_n 3, 1) := by decide +kernel
theorem dX7_entry_30 : decode cX7_entry 30 = .ok (.iconst (-1), 1) := by decide +kernel
theorem dX7_entry_31 : decode cX7_entry 31 = .ok (.if_icmp .ne 11, 3) := by decide +kernel
theorem dX7_entry_34 : decode cX7_entry 34 = .ok (.aload_n 0, 1) := by decide +kernel
theorem dX7_entry_35 : decode cX7_entry 35 = .ok (.getfield 26, 3) := by decide +kernel
theorem dX7_entry_38 : decode cX7_entry 38 = .ok (.invokevirtual 200, 3) := by decide +kernel
theorem dX7_entry_41 : decode cX7_entry 41 = .ok (.ireturn, 1) := by decide +kernel
theorem dX7_entry_42 : decode cX7_entry 42 = .ok (.iload_n 3, 1) := by decide +kernel
theorem dX7_entry_43 : decode cX7_entry 43 = .ok (.aload_n 0, 1) := by decide +kernel
theorem dX7_entry_44 : decode cX7_entry 44 = .ok (.getfield 26, 3) := by decide +kernel
theorem dX7_entry_47 : decode cX7_entry 47 = .ok (.invokevirtual 200, 3) := by decide +kernel
theorem dX7_entry_50 : decode cX7_entry 50 = .ok (.if_icmp .ge 17, 3) := by decide +kernel
theorem dX7_entry_53 : decode cX7_entry 53 = .ok (.aload_n 0, 1) := by decide +kernel
theorem dX7_entry_54 : decode cX7_entry 54 = .ok (.getfield 26, 3) := by decide +kernel
theorem dX7_entry_57 : decode cX7_entry 57 = .ok (.iload_n 3, 1) := by decide +kernel
theorem dX7_entry_58 : decode cX7_entry 58 = .ok (.invokevirtual 201, 3) := by decide +kernel
theorem dX7_entry_61 : decode cX7_entry 61 = .ok (.ldc 114, 2) := by decide +kernel
theorem dX7_entry_63 : decode cX7_entry 63 = .ok (.iadd, 1) := by decide +kernel
theorem dX7_entry_64 : decode cX7_entry 64 = .ok (.goto 5, 3) := by decide +kernel
theorem dX7_entry_67 : decode cX7_entry 67 = .ok (.bipush (-4), 2) := by decide +kernel
theorem dX7_entry_69 : decode cX7_entry 69 = .ok (.ireturn, 1) := by decide +kernel
theorem dX7_year_0 : decode cX7_year 0 = .ok (.aload_n 0, 1) := by decide +kernel
theorem dX7_year_1 : decode cX7_year 1 = .ok (.iload_n 1, 1) := by decide +kernel
theorem dX7_year_2 : decode cX7_year 2 = .ok (.iload_n 2, 1) := by decide +kernel
theorem dX7_year_3 : decode cX7_year 3 = .ok (.invokevirtual 190, 3) := by decide +kernel
theorem dX7_year_6 : decode cX7_year 6 = .ok (.ifCond .eq 7, 3) := by decide +kernel
theorem dX7_year_9 : decode cX7_year 9 = .ok (.iload_n 3, 1) := by decide +kernel
theorem dX7_year_10 : decode cX7_year 10 = .ok (.ifCond .ge 5, 3) := by decide +kernel
theorem dX7_year_13 : decode cX7_year 13 = .ok (.iconst (-1), 1) := by decide +kernel
theorem dX7_year_14 : decode cX7_year 14 = .ok (.ireturn, 1) := by decide +kernel
theorem dX7_year_15 : decode cX7_year 15 = .ok (.aload_n 0, 1) := by decide +kernel
theorem dX7_year_16 : decode cX7_year 16 = .ok (.getfield 26, 3) := by decide +kernel
theorem dX7_year_19 : decode cX7_year 19 = .ok (.aload_n 0, 1) := by decide +kernel
theorem dX7_year_20 : decode cX7_year 20 = .ok (.getfield 19, 3) := by decide +kernel
theorem dX7_year_23 : decode cX7_year 23 = .ok (.iload_n 1, 1) := by decide +kernel
theorem dX7_year_24 : decode cX7_year 24 = .ok (.iload_n 2, 1) := by decide +kernel
theorem dX7_year_25 : decode cX7_year 25 = .ok (.invokevirtual 196, 3) := by decide +kernel
theorem dX7_year_28 : decode cX7_year 28 = .ok (.iload_n 3, 1) := by decide +kernel
theorem dX7_year_29 : decode cX7_year 29 = .ok (.aload_n 0, 1) := by decide +kernel
theorem dX7_year_30 : decode cX7_year 30 = .ok (.getfield 26, 3) := by decide +kernel
theorem dX7_year_33 : decode cX7_year 33 = .ok (.invokevirtual 200, 3) := by decide +kernel
theorem dX7_year_36 : decode cX7_year 36 = .ok (.if_icmp .ge 14, 3) := by decide +kernel
theorem dX7_year_39 : decode cX7_year 39 = .ok (.aload_n 0, 1) := by decide +kernel
theorem dX7_year_40 : decode cX7_year 40 = .ok (.getfield 26, 3) := by decide +kernel
theorem dX7_year_43 : decode cX7_year 43 = .ok (.iload_n 3, 1) := by decide +kernel
theorem dX7_year_44 : decode cX7_year 44 = .ok (.invokevirtual 204, 3) := by decide +kernel
theorem dX7_year_47 : decode cX7_year 47 = .ok (.goto 5, 3) := by decide +kernel
theorem dX7_year_50 : decode cX7_year 50 = .ok (.bipush (-4), 2) := by decide +kernel
theorem dX7_year_52 : decode cX7_year 52 = .ok (.ireturn, 1) := by decide +kernel
theorem dX7_spread_0 : decode cX7_spread 0 = .ok (.aload_n 0, 1) := by decide +kernel
theorem dX7_spread_1 : decode cX7_spread 1 = .ok (.iload_n 1, 1) := by decide +kernel
theorem dX7_spread_2 : decode cX7_spread 2 = .ok (.iload_n 2, 1) := by decide +kernel
theorem dX7_spread_3 : decode cX7_spread 3 = .ok (.invokevirtual 190, 3) := by decide +kernel
theorem dX7_spread_6 : decode cX7_spread 6 = .ok (.ifCond .ne 7, 3) := by decide +kernel
theorem dX7_spread_9 : decode cX7_spread 9 = .ok (.ldc2_w 207, 3) := by decide +kernel
theorem dX7_spread_12 : decode cX7_spread 12 = .ok (.lreturn, 1) := by decide +kernel
theorem dX7_spread_13 : decode cX7_spread 13 = .ok (.aload_n 0, 1) := by decide +kernel
theorem dX7_spread_14 : decode cX7_spread 14 = .ok (.getfield 26, 3) := by decide +kernel
theorem dX7_spread_17 : decode cX7_spread 17 = .ok (.aload_n 0, 1) := by decide +kernel
theorem dX7_spread_18 : decode cX7_spread 18 = .ok (.getfield 19, 3) := by decide +kernel
theorem dX7_spread_21 : decode cX7_spread 21 = .ok (.iload_n 1, 1) := by decide +kernel
theorem dX7_spread_22 : decode cX7_spread 22 = .ok (.iload_n 2, 1) := by decide +kernel
theorem dX7_spread_23 : decode cX7_spread 23 = .ok (.invokevirtual 196, 3) := by decide +kernel
theorem dX7_spread_26 : decode cX7_spread 26 = .ok (.iload_n 3, 1) := by decide +kernel
theorem dX7_spread_27 : decode cX7_spread 27 = .ok (.ifCond .lt 21, 3) := by decide +kernel
theorem dX7_spread_30 : decode cX7_spread 30 = .ok (.iload 4, 2) := by decide +kernel
theorem dX7_spread_32 : decode cX7_spread 32 = .ok (.iload_n 3, 1) := by decide +kernel
theorem dX7_spread_33 : decode cX7_spread 33 = .ok (.if_icmp .lt 15, 3) := by decide +kernel
theorem dX7_spread_36 : decode cX7_spread 36 = .ok (.iload 4, 2) := by decide +kernel
theorem dX7_spread_38 : decode cX7_spread 38 = .ok (.aload_n 0, 1) := by decide +kernel
theorem dX7_spread_39 : decode cX7_spread 39 = .ok (.getfield 26, 3) := by decide +kernel
theorem dX7_spread_42 : decode cX7_spread 42 = .ok (.invokevirtual 200, 3) := by decide +kernel
theorem dX7_spread_45 : decode cX7_spread 45 = .ok (.if_icmp .lt 7, 3) := by decide +kernel
theorem dX7_spread_48 : decode cX7_spread 48 = .ok (.ldc2_w 207, 3) := by decide +kernel
theorem dX7_spread_51 : decode cX7_spread 51 = .ok (.lreturn, 1) := by decide +kernel
theorem dX7_spread_52 : decode cX7_spread 52 = .ok (.aload_n 0, 1) := by decide +kernel
theorem dX7_spread_53 : decode cX7_spread 53 = .ok (.getfield 26, 3) := by decide +kernel
theorem dX7_spread_56 : decode cX7_spread 56 = .ok (.iload_n 3, 1) := by decide +kernel
theorem dX7_spread_57 : decode cX7_spread 57 = .ok (.iload 4, 2) := by decide +kernel
theorem dX7_spread_59 : decode cX7_spread 59 = .ok (.iconst 1, 1) := by decide +kernel
theorem dX7_spread_60 : decode cX7_spread 60 = .ok (.iadd, 1) := by decide +kernel
theorem dX7_spread_61 : decode cX7_spread 61 = .ok (.invokevirtual 209, 3) := by decide +kernel
theorem dX7_spread_64 : decode cX7_spread 64 = .ok (.lreturn, 1) := by decide +kernel
theorem dX7_split_0 : decode cX7_split 0 = .ok (.aload_n 0, 1) := by decide +kernel
theorem dX7_split_1 : decode cX7_split 1 = .ok (.iload_n 1, 1) := by decide +kernel
theorem dX7_split_2 : decode cX7_split 2 = .ok (.iload_n 2, 1) := by decide +kernel
theorem dX7_split_3 : decode cX7_split 3 = .ok (.invokevirtual 190, 3) := by decide +kernel
theorem dX7_split_6 : decode cX7_split 6 = .ok (.ifCond .eq 8, 3) := by decide +kernel
theorem dX7_split_9 : decode cX7_split 9 = .ok (.iload_n 3, 1) := by decide +kernel
theorem dX7_split_10 : decode cX7_split 10 = .ok (.iconst (-1), 1) := by decide +kernel
theorem dX7_split_11 : decode cX7_split 11 = .ok (.if_icmp .ge 5, 3) := by decide +kernel
theorem dX7_split_14 : decode cX7_split 14 = .ok (.iconst (-1), 1) := by decide +kernel
theorem dX7_split_15 : decode cX7_split 15 = .ok (.ireturn, 1) := by decide +kernel
theorem dX7_split_16 : decode cX7_split 16 = .ok (.aload_n 0, 1) := by decide +kernel
theorem dX7_split_17 : decode cX7_split 17 = .ok (.iload_n 1, 1) := by decide +kernel
theorem dX7_split_18 : decode cX7_split 18 = .ok (.iload_n 2, 1) := by decide +kernel
theorem dX7_split_19 : decode cX7_split 19 = .ok (.aload_n 0, 1) := by decide +kernel
theorem dX7_split_20 : decode cX7_split 20 = .ok (.getfield 19, 3) := by decide +kernel
theorem dX7_split_23 : decode cX7_split 23 = .ok (.invokevirtual 134, 3) := by decide +kernel
theorem dX7_split_26 : decode cX7_split 26 = .ok (.invokevirtual 213, 3) := by decide +kernel
theorem dX7_split_29 : decode cX7_split 29 = .ok (.iload_n 3, 1) := by decide +kernel
theorem dX7_split_30 : decode cX7_split 30 = .ok (.iconst (-1), 1) := by decide +kernel
theorem dX7_split_31 : decode cX7_split 31 = .ok (.if_icmp .ne 11, 3) := by decide +kernel
theorem dX7_split_34 : decode cX7_split 34 = .ok (.aload_n 0, 1) := by decide +kernel
theorem dX7_split_35 : decode cX7_split 35 = .ok (.getfield 35, 3) := by decide +kernel
theorem dX7_split_38 : decode cX7_split 38 = .ok (.invokevirtual 216, 3) := by decide +kernel
theorem dX7_split_41 : decode cX7_split 41 = .ok (.ireturn, 1) := by decide +kernel
theorem dX7_split_42 : decode cX7_split 42 = .ok (.iload_n 3, 1) := by decide +kernel
theorem dX7_split_43 : decode cX7_split 43 = .ok (.aload_n 0, 1) := by decide +kernel
theorem dX7_split_44 : decode cX7_split 44 = .ok (.getfield 35, 3) := by decide +kernel
theorem dX7_split_47 : decode cX7_split 47 = .ok (.invokevirtual 216, 3) := by decide +kernel
theorem dX7_split_50 : decode cX7_split 50 = .ok (.if_icmp .ge 14, 3) := by decide +kernel
theorem dX7_split_53 : decode cX7_split 53 = .ok (.aload_n 0, 1) := by decide +kernel
theorem dX7_split_54 : decode cX7_split 54 = .ok (.getfield 35, 3) := by decide +kernel
theorem dX7_split_57 : decode cX7_split 57 = .ok (.iload_n 3, 1) := by decide +kernel
theorem dX7_split_58 : decode cX7_split 58 = .ok (.invokevirtual 219, 3) := by decide +kernel
theorem dX7_split_61 : decode cX7_split 61 = .ok (.goto 5, 3) := by decide +kernel
theorem dX7_split_64 : decode cX7_split 64 = .ok (.bipush (-4), 2) := by decide +kernel
theorem dX7_split_66 : decode cX7_split 66 = .ok (.ireturn, 1) := by decide +kernel
theorem dX7_segment_0 : decode cX7_segment 0 = .ok (.aload_n 0, 1) := by decide +kernel
theorem dX7_segment_1 : decode cX7_segment 1 = .ok (.getfield 26, 3) := by decide +kernel
theorem dX7_segment_4 : decode cX7_segment 4 = .ok (.aload_n 0, 1) := by decide +kernel
theorem dX7_segment_5 : decode cX7_segment 5 = .ok (.getfield 19, 3) := by decide +kernel
theorem dX7_segment_8 : decode cX7_segment 8 = .ok (.iload_n 1, 1) := by decide +kernel
theorem dX7_segment_9 : decode cX7_segment 9 = .ok (.iload_n 2, 1) := by decide +kernel
theorem dX7_segment_10 : decode cX7_segment 10 = .ok (.invokevirtual 196, 3) := by decide +kernel
theorem dX7_segment_13 : decode cX7_segment 13 = .ok (.aload_n 0, 1) := by decide +kernel
theorem dX7_segment_14 : decode cX7_segment 14 = .ok (.getfield 35, 3) := by decide +kernel
theorem dX7_segment_17 : decode cX7_segment 17 = .ok (.aload_n 0, 1) := by decide +kernel
theorem dX7_segment_18 : decode cX7_segment 18 = .ok (.getfield 19, 3) := by decide +kernel
theorem dX7_segment_21 : decode cX7_segment 21 = .ok (.iconst 0, 1) := by decide +kernel
theorem dX7_segment_22 : decode cX7_segment 22 = .ok (.invokevirtual 145, 3) := by decide +kernel
theorem dX7_segment_25 : decode cX7_segment 25 = .ok (.iload_n 3, 1) := by decide +kernel
theorem dX7_segment_26 : decode cX7_segment 26 = .ok (.invokevirtual 222, 3) := by decide +kernel
theorem dX7_segment_29 : decode cX7_segment 29 = .ok (.return_, 1) := by decide +kernel
theorem dX7_cost_0 : decode cX7_cost 0 = .ok (.aload_n 0, 1) := by decide +kernel
theorem dX7_cost_1 : decode cX7_cost 1 = .ok (.iload_n 1, 1) := by decide +kernel
theorem dX7_cost_2 : decode cX7_cost 2 = .ok (.iload_n 2, 1) := by decide +kernel
theorem dX7_cost_3 : decode cX7_cost 3 = .ok (.invokevirtual 190, 3) := by decide +kernel
theorem dX7_cost_6 : decode cX7_cost 6 = .ok (.ifCond .ne 7, 3) := by decide +kernel
theorem dX7_cost_9 : decode cX7_cost 9 = .ok (.ldc2_w 207, 3) := by decide +kernel
theorem dX7_cost_12 : decode cX7_cost 12 = .ok (.lreturn, 1) := by decide +kernel
theorem dX7_cost_13 : decode cX7_cost 13 = .ok (.aload_n 0, 1) := by decide +kernel
theorem dX7_cost_14 : decode cX7_cost 14 = .ok (.iload_n 1, 1) := by decide +kernel
theorem dX7_cost_15 : decode cX7_cost 15 = .ok (.iload_n 2, 1) := by decide +kernel
theorem dX7_cost_16 : decode cX7_cost 16 = .ok (.aload_n 0, 1) := by decide +kernel
theorem dX7_cost_17 : decode cX7_cost 17 = .ok (.getfield 19, 3) := by decide +kernel
theorem dX7_cost_20 : decode cX7_cost 20 = .ok (.invokevirtual 134, 3) := by decide +kernel
theorem dX7_cost_23 : decode cX7_cost 23 = .ok (.invokevirtual 213, 3) := by decide +kernel
theorem dX7_cost_26 : decode cX7_cost 26 = .ok (.aload_n 0, 1) := by decide +kernel
theorem dX7_cost_27 : decode cX7_cost 27 = .ok (.getfield 35, 3) := by decide +kernel
theorem dX7_cost_30 : decode cX7_cost 30 = .ok (.invokevirtual 225, 3) := by decide +kernel
theorem dX7_cost_33 : decode cX7_cost 33 = .ok (.lreturn, 1) := by decide +kernel
theorem dX7_spreads_0 : decode cX7_spreads 0 = .ok (.aload_n 0, 1) := by decide +kernel
theorem dX7_spreads_1 : decode cX7_spreads 1 = .ok (.iload_n 1, 1) := by decide +kernel
theorem dX7_spreads_2 : decode cX7_spreads 2 = .ok (.iload_n 2, 1) := by decide +kernel
theorem dX7_spreads_3 : decode cX7_spreads 3 = .ok (.invokevirtual 190, 3) := by decide +kernel
theorem dX7_spreads_6 : decode cX7_spreads 6 = .ok (.ifCond .eq 7, 3) := by decide +kernel
theorem dX7_spreads_9 : decode cX7_spreads 9 = .ok (.iload_n 3, 1) := by decide +kernel
theorem dX7_spreads_10 : decode cX7_spreads 10 = .ok (.ifCond .ge 7, 3) := by decide +kernel
theorem dX7_spreads_13 : decode cX7_spreads 13 = .ok (.ldc2_w 207, 3) := by decide +kernel
theorem dX7_spreads_16 : decode cX7_spreads 16 = .ok (.lreturn, 1) := by decide +kernel
theorem dX7_spreads_17 : decode cX7_spreads 17 = .ok (.aload_n 0, 1) := by decide +kernel
theorem dX7_spreads_18 : decode cX7_spreads 18 = .ok (.getfield 26, 3) := by decide +kernel
theorem dX7_spreads_21 : decode cX7_spreads 21 = .ok (.aload_n 0, 1) := by decide +kernel
theorem dX7_spreads_22 : decode cX7_spreads 22 = .ok (.getfield 19, 3) := by decide +kernel
theorem dX7_spreads_25 : decode cX7_spreads 25 = .ok (.iload_n 1, 1) := by decide +kernel
theorem dX7_spreads_26 : decode cX7_spreads 26 = .ok (.iload_n 2, 1) := by decide +kernel
theorem dX7_spreads_27 : decode cX7_spreads 27 = .ok (.invokevirtual 196, 3) := by decide +kernel
theorem dX7_spreads_30 : decode cX7_spreads 30 = .ok (.aload_n 0, 1) := by decide +kernel
theorem dX7_spreads_31 : decode cX7_spreads 31 = .ok (.getfield 35, 3) := by decide +kernel
theorem dX7_spreads_34 : decode cX7_spreads 34 = .ok (.aload_n 0, 1) := by decide +kernel
theorem dX7_spreads_35 : decode cX7_spreads 35 = .ok (.getfield 19, 3) := by decide +kernel
theorem dX7_spreads_38 : decode cX7_spreads 38 = .ok (.iconst 0, 1) := by decide +kernel
theorem dX7_spreads_39 : decode cX7_spreads 39 = .ok (.invokevirtual 145, 3) := by decide +kernel
theorem dX7_spreads_42 : decode cX7_spreads 42 = .ok (.iload_n 3, 1) := by decide +kernel
theorem dX7_spreads_43 : decode cX7_spreads 43 = .ok (.invokevirtual 229, 3) := by decide +kernel
theorem dX7_spreads_46 : decode cX7_spreads 46 = .ok (.lreturn, 1) := by decide +kernel
theorem dX7_breaks_0 : decode cX7_breaks 0 = .ok (.aload_n 0, 1) := by decide +kernel
theorem dX7_breaks_1 : decode cX7_breaks 1 = .ok (.iload_n 1, 1) := by decide +kernel
theorem dX7_breaks_2 : decode cX7_breaks 2 = .ok (.iload_n 2, 1) := by decide +kernel
theorem dX7_breaks_3 : decode cX7_breaks 3 = .ok (.invokevirtual 190, 3) := by decide +kernel
theorem dX7_breaks_6 : decode cX7_breaks 6 = .ok (.ifCond .eq 10, 3) := by decide +kernel
theorem dX7_breaks_9 : decode cX7_breaks 9 = .ok (.iload_n 3, 1) := by decide +kernel
theorem dX7_breaks_10 : decode cX7_breaks 10 = .ok (.invokestatic 131, 3) := by decide +kernel
theorem dX7_breaks_13 : decode cX7_breaks 13 = .ok (.ifCond .ne 5, 3) := by decide +kernel
theorem dX7_breaks_16 : decode cX7_breaks 16 = .ok (.iconst (-1), 1) := by decide +kernel
theorem dX7_breaks_17 : decode cX7_breaks 17 = .ok (.ireturn, 1) := by decide +kernel
theorem dX7_breaks_18 : decode cX7_breaks 18 = .ok (.aload_n 0, 1) := by decide +kernel
theorem dX7_breaks_19 : decode cX7_breaks 19 = .ok (.iload_n 1, 1) := by decide +kernel
theorem dX7_breaks_20 : decode cX7_breaks 20 = .ok (.iload_n 2, 1) := by decide +kernel
theorem dX7_breaks_21 : decode cX7_breaks 21 = .ok (.iload_n 3, 1) := by decide +kernel
theorem dX7_breaks_22 : decode cX7_breaks 22 = .ok (.invokevirtual 213, 3) := by decide +kernel
theorem dX7_breaks_25 : decode cX7_breaks 25 = .ok (.aload_n 0, 1) := by decide +kernel
theorem dX7_breaks_26 : decode cX7_breaks 26 = .ok (.getfield 35, 3) := by decide +kernel
theorem dX7_breaks_29 : decode cX7_breaks 29 = .ok (.invokevirtual 216, 3) := by decide +kernel
theorem dX7_breaks_32 : decode cX7_breaks 32 = .ok (.ireturn, 1) := by decide +kernel
theorem dX7_least_0 : decode cX7_least 0 = .ok (.aload_n 0, 1) := by decide +kernel
theorem dX7_least_1 : decode cX7_least 1 = .ok (.iload_n 1, 1) := by decide +kernel
theorem dX7_least_2 : decode cX7_least 2 = .ok (.iload_n 2, 1) := by decide +kernel
theorem dX7_least_3 : decode cX7_least 3 = .ok (.invokevirtual 190, 3) := by decide +kernel
theorem dX7_least_6 : decode cX7_least 6 = .ok (.ifCond .eq 7, 3) := by decide +kernel
theorem dX7_least_9 : decode cX7_least 9 = .ok (.iload_n 3, 1) := by decide +kernel
theorem dX7_least_10 : decode cX7_least 10 = .ok (.ifCond .ge 5, 3) := by decide +kernel
theorem dX7_least_13 : decode cX7_least 13 = .ok (.iconst (-1), 1) := by decide +kernel
theorem dX7_least_14 : decode cX7_least 14 = .ok (.ireturn, 1) := by decide +kernel
theorem dX7_least_15 : decode cX7_least 15 = .ok (.aload_n 0, 1) := by decide +kernel
theorem dX7_least_16 : decode cX7_least 16 = .ok (.getfield 26, 3) := by decide +kernel
theorem dX7_least_19 : decode cX7_least 19 = .ok (.aload_n 0, 1) := by decide +kernel
theorem dX7_least_20 : decode cX7_least 20 = .ok (.getfield 19, 3) := by decide +kernel
theorem dX7_least_23 : decode cX7_least 23 = .ok (.iload_n 1, 1) := by decide +kernel
theorem dX7_least_24 : decode cX7_least 24 = .ok (.iload_n 2, 1) := by decide +kernel
theorem dX7_least_25 : decode cX7_least 25 = .ok (.invokevirtual 196, 3) := by decide +kernel
theorem dX7_least_28 : decode cX7_least 28 = .ok (.iconst (-1), 1) := by decide +kernel
theorem dX7_least_29 : decode cX7_least 29 = .ok (.istore 4, 2) := by decide +kernel
theorem dX7_least_31 : decode cX7_least 31 = .ok (.ldc 232, 2) := by decide +kernel
theorem dX7_least_33 : decode cX7_least 33 = .ok (.istore 5, 2) := by decide +kernel
theorem dX7_least_35 : decode cX7_least 35 = .ok (.iload 5, 2) := by decide +kernel
theorem dX7_least_37 : decode cX7_least 37 = .ok (.ifCond .le 63, 3) := by decide +kernel
theorem dX7_least_40 : decode cX7_least 40 = .ok (.iload 4, 2) := by decide +kernel
theorem dX7_least_42 : decode cX7_least 42 = .ok (.iload 5, 2) := by decide +kernel
theorem dX7_least_44 : decode cX7_least 44 = .ok (.iadd, 1) := by decide +kernel
theorem dX7_least_45 : decode cX7_least 45 = .ok (.istore 6, 2) := by decide +kernel
theorem dX7_least_47 : decode cX7_least 47 = .ok (.iload 6, 2) := by decide +kernel
theorem dX7_least_49 : decode cX7_least 49 = .ok (.ldc 141, 2) := by decide +kernel
theorem dX7_least_51 : decode cX7_least 51 = .ok (.if_icmp .gt 40, 3) := by decide +kernel
theorem dX7_least_54 : decode cX7_least 54 = .ok (.aload_n 0, 1) := by decide +kernel
theorem dX7_least_55 : decode cX7_least 55 = .ok (.getfield 35, 3) := by decide +kernel
theorem dX7_least_58 : decode cX7_least 58 = .ok (.aload_n 0, 1) := by decide +kernel
theorem dX7_least_59 : decode cX7_least 59 = .ok (.getfield 19, 3) := by decide +kernel
theorem dX7_least_62 : decode cX7_least 62 = .ok (.iconst 0, 1) := by decide +kernel
theorem dX7_least_63 : decode cX7_least 63 = .ok (.invokevirtual 145, 3) := by decide +kernel
theorem dX7_least_66 : decode cX7_least 66 = .ok (.iload 6, 2) := by decide +kernel
theorem dX7_least_68 : decode cX7_least 68 = .ok (.invokevirtual 222, 3) := by decide +kernel
theorem dX7_least_71 : decode cX7_least 71 = .ok (.aload_n 0, 1) := by decide +kernel
theorem dX7_least_72 : decode cX7_least 72 = .ok (.getfield 35, 3) := by decide +kernel
theorem dX7_least_75 : decode cX7_least 75 = .ok (.invokevirtual 216, 3) := by decide +kernel
theorem dX7_least_78 : decode cX7_least 78 = .ok (.iload_n 3, 1) := by decide +kernel
theorem dX7_least_79 : decode cX7_least 79 = .ok (.if_icmp .le 8, 3) := by decide +kernel
theorem dX7_least_82 : decode cX7_least 82 = .ok (.iload 6, 2) := by decide +kernel
theorem dX7_least_84 : decode cX7_least 84 = .ok (.goto 5, 3) := by decide +kernel
theorem dX7_least_87 : decode cX7_least 87 = .ok (.iload 4, 2) := by decide +kernel
theorem dX7_least_89 : decode cX7_least 89 = .ok (.istore 4, 2) := by decide +kernel
theorem dX7_least_91 : decode cX7_least 91 = .ok (.iload 5, 2) := by decide +kernel
theorem dX7_least_93 : decode cX7_least 93 = .ok (.iconst 2, 1) := by decide +kernel
theorem dX7_least_94 : decode cX7_least 94 = .ok (.idiv, 1) := by decide +kernel
theorem dX7_least_95 : decode cX7_least 95 = .ok (.istore 5, 2) := by decide +kernel
theorem dX7_least_97 : decode cX7_least 97 = .ok (.goto (-62), 3) := by decide +kernel
theorem dX7_least_100 : decode cX7_least 100 = .ok (.iload 4, 2) := by decide +kernel
theorem dX7_least_102 : decode cX7_least 102 = .ok (.ldc 141, 2) := by decide +kernel
theorem dX7_least_104 : decode cX7_least 104 = .ok (.if_icmp .ge 10, 3) := by decide +kernel
theorem dX7_least_107 : decode cX7_least 107 = .ok (.iload 4, 2) := by decide +kernel
theorem dX7_least_109 : decode cX7_least 109 = .ok (.iconst 1, 1) := by decide +kernel
theorem dX7_least_110 : decode cX7_least 110 = .ok (.iadd, 1) := by decide +kernel
theorem dX7_least_111 : decode cX7_least 111 = .ok (.goto 5, 3) := by decide +kernel
theorem dX7_least_114 : decode cX7_least 114 = .ok (.bipush (-4), 2) := by decide +kernel
theorem dX7_least_116 : decode cX7_least 116 = .ok (.ireturn, 1) := by decide +kernel
theorem dX7_votes_0 : decode cX7_votes 0 = .ok (.aload_n 0, 1) := by decide +kernel
theorem dX7_votes_1 : decode cX7_votes 1 = .ok (.getfield 19, 3) := by decide +kernel
theorem dX7_votes_4 : decode cX7_votes 4 = .ok (.iload_n 1, 1) := by decide +kernel
theorem dX7_votes_5 : decode cX7_votes 5 = .ok (.iload_n 2, 1) := by decide +kernel
theorem dX7_votes_6 : decode cX7_votes 6 = .ok (.invokevirtual 101, 3) := by decide +kernel
theorem dX7_votes_9 : decode cX7_votes 9 = .ok (.ifCond .ne 5, 3) := by decide +kernel
theorem dX7_votes_12 : decode cX7_votes 12 = .ok (.iconst (-1), 1) := by decide +kernel
theorem dX7_votes_13 : decode cX7_votes 13 = .ok (.ireturn, 1) := by decide +kernel
theorem dX7_votes_14 : decode cX7_votes 14 = .ok (.aload_n 0, 1) := by decide +kernel
theorem dX7_votes_15 : decode cX7_votes 15 = .ok (.getfield 44, 3) := by decide +kernel
theorem dX7_votes_18 : decode cX7_votes 18 = .ok (.invokevirtual 233, 3) := by decide +kernel
theorem dX7_votes_21 : decode cX7_votes 21 = .ok (.aload_n 0, 1) := by decide +kernel
theorem dX7_votes_22 : decode cX7_votes 22 = .ok (.getfield 44, 3) := by decide +kernel
theorem dX7_votes_25 : decode cX7_votes 25 = .ok (.iload_n 1, 1) := by decide +kernel
theorem dX7_votes_26 : decode cX7_votes 26 = .ok (.iload_n 2, 1) := by decide +kernel
theorem dX7_votes_27 : decode cX7_votes 27 = .ok (.invokevirtual 236, 3) := by decide +kernel
theorem dX7_votes_30 : decode cX7_votes 30 = .ok (.ireturn, 1) := by decide +kernel
theorem dX7_culprit_0 : decode cX7_culprit 0 = .ok (.iload_n 1, 1) := by decide +kernel
theorem dX7_culprit_1 : decode cX7_culprit 1 = .ok (.iconst (-1), 1) := by decide +kernel
theorem dX7_culprit_2 : decode cX7_culprit 2 = .ok (.if_icmp .lt 12, 3) := by decide +kernel
theorem dX7_culprit_5 : decode cX7_culprit 5 = .ok (.iload_n 2, 1) := by decide +kernel
theorem dX7_culprit_6 : decode cX7_culprit 6 = .ok (.ifCond .lt 8, 3) := by decide +kernel
theorem dX7_culprit_9 : decode cX7_culprit 9 = .ok (.iload_n 2, 1) := by decide +kernel
theorem dX7_culprit_10 : decode cX7_culprit 10 = .ok (.iconst 4, 1) := by decide +kernel
theorem dX7_culprit_11 : decode cX7_culprit 11 = .ok (.if_icmp .lt 5, 3) := by decide +kernel
theorem dX7_culprit_14 : decode cX7_culprit 14 = .ok (.iconst (-1), 1) := by decide +kernel
theorem dX7_culprit_15 : decode cX7_culprit 15 = .ok (.ireturn, 1) := by decide +kernel
theorem dX7_culprit_16 : decode cX7_culprit 16 = .ok (.aload_n 0, 1) := by decide +kernel
theorem dX7_culprit_17 : decode cX7_culprit 17 = .ok (.getfield 44, 3) := by decide +kernel
theorem dX7_culprit_20 : decode cX7_culprit 20 = .ok (.invokevirtual 233, 3) := by decide +kernel
theorem dX7_culprit_23 : decode cX7_culprit 23 = .ok (.iload_n 1, 1) := by decide +kernel
theorem dX7_culprit_24 : decode cX7_culprit 24 = .ok (.iconst (-1), 1) := by decide +kernel
theorem dX7_culprit_25 : decode cX7_culprit 25 = .ok (.if_icmp .ne 11, 3) := by decide +kernel
theorem dX7_culprit_28 : decode cX7_culprit 28 = .ok (.aload_n 0, 1) := by decide +kernel
theorem dX7_culprit_29 : decode cX7_culprit 29 = .ok (.getfield 44, 3) := by decide +kernel
theorem dX7_culprit_32 : decode cX7_culprit 32 = .ok (.invokevirtual 239, 3) := by decide +kernel
theorem dX7_culprit_35 : decode cX7_culprit 35 = .ok (.ireturn, 1) := by decide +kernel
theorem dX7_culprit_36 : decode cX7_culprit 36 = .ok (.iload_n 1, 1) := by decide +kernel
theorem dX7_culprit_37 : decode cX7_culprit 37 = .ok (.aload_n 0, 1) := by decide +kernel
theorem dX7_culprit_38 : decode cX7_culprit 38 = .ok (.getfield 44, 3) := by decide +kernel
theorem dX7_culprit_41 : decode cX7_culprit 41 = .ok (.invokevirtual 239, 3) := by decide +kernel
theorem dX7_culprit_44 : decode cX7_culprit 44 = .ok (.if_icmp .lt 6, 3) := by decide +kernel
theorem dX7_culprit_47 : decode cX7_culprit 47 = .ok (.bipush (-4), 2) := by decide +kernel
theorem dX7_culprit_49 : decode cX7_culprit 49 = .ok (.ireturn, 1) := by decide +kernel
theorem dX7_culprit_50 : decode cX7_culprit 50 = .ok (.iload_n 2, 1) := by decide +kernel
theorem dX7_culprit_51 : decode cX7_culprit 51 = .ok (.iconst 3, 1) := by decide +kernel
theorem dX7_culprit_52 : decode cX7_culprit 52 = .ok (.if_icmp .ne 18, 3) := by decide +kernel
theorem dX7_culprit_55 : decode cX7_culprit 55 = .ok (.aload_n 0, 1) := by decide +kernel
theorem dX7_culprit_56 : decode cX7_culprit 56 = .ok (.getfield 44, 3) := by decide +kernel
theorem dX7_culprit_59 : decode cX7_culprit 59 = .ok (.iload_n 1, 1) := by decide +kernel
theorem dX7_culprit_60 : decode cX7_culprit 60 = .ok (.iload_n 2, 1) := by decide +kernel
theorem dX7_culprit_61 : decode cX7_culprit 61 = .ok (.invokevirtual 240, 3) := by decide +kernel
theorem dX7_culprit_64 : decode cX7_culprit 64 = .ok (.ldc 114, 2) := by decide +kernel
theorem dX7_culprit_66 : decode cX7_culprit 66 = .ok (.iadd, 1) := by decide +kernel
theorem dX7_culprit_67 : decode cX7_culprit 67 = .ok (.goto 12, 3) := by decide +kernel
theorem dX7_culprit_70 : decode cX7_culprit 70 = .ok (.aload_n 0, 1) := by decide +kernel
theorem dX7_culprit_71 : decode cX7_culprit 71 = .ok (.getfield 44, 3) := by decide +kernel
theorem dX7_culprit_74 : decode cX7_culprit 74 = .ok (.iload_n 1, 1) := by decide +kernel
theorem dX7_culprit_75 : decode cX7_culprit 75 = .ok (.iload_n 2, 1) := by decide +kernel
theorem dX7_culprit_76 : decode cX7_culprit 76 = .ok (.invokevirtual 240, 3) := by decide +kernel
theorem dX7_culprit_79 : decode cX7_culprit 79 = .ok (.ireturn, 1) := by decide +kernel
theorem dX7_mend_0 : decode cX7_mend 0 = .ok (.iload_n 1, 1) := by decide +kernel
theorem dX7_mend_1 : decode cX7_mend 1 = .ok (.ifCond .ge 7, 3) := by decide +kernel
theorem dX7_mend_4 : decode cX7_mend 4 = .ok (.iconst (-1), 1) := by decide +kernel
theorem dX7_mend_5 : decode cX7_mend 5 = .ok (.goto 8, 3) := by decide +kernel
theorem dX7_mend_8 : decode cX7_mend 8 = .ok (.aload_n 0, 1) := by decide +kernel
theorem dX7_mend_9 : decode cX7_mend 9 = .ok (.iload_n 1, 1) := by decide +kernel
theorem dX7_mend_10 : decode cX7_mend 10 = .ok (.invokevirtual 243, 3) := by decide +kernel
theorem dX7_mend_13 : decode cX7_mend 13 = .ok (.ireturn, 1) := by decide +kernel
theorem dX7_mendCulprit_0 : decode cX7_mendCulprit 0 = .ok (.aload_n 0, 1) := by decide +kernel
theorem dX7_mendCulprit_1 : decode cX7_mendCulprit 1 = .ok (.getfield 44, 3) := by decide +kernel
theorem dX7_mendCulprit_4 : decode cX7_mendCulprit 4 = .ok (.invokevirtual 233, 3) := by decide +kernel
theorem dX7_mendCulprit_7 : decode cX7_mendCulprit 7 = .ok (.iload_n 1, 1) := by decide +kernel
theorem dX7_mendCulprit_8 : decode cX7_mendCulprit 8 = .ok (.aload_n 0, 1) := by decide +kernel
theorem dX7_mendCulprit_9 : decode cX7_mendCulprit 9 = .ok (.getfield 44, 3) := by decide +kernel
theorem dX7_mendCulprit_12 : decode cX7_mendCulprit 12 = .ok (.invokevirtual 239, 3) := by decide +kernel
theorem dX7_mendCulprit_15 : decode cX7_mendCulprit 15 = .ok (.if_icmp .lt 6, 3) := by decide +kernel
theorem dX7_mendCulprit_18 : decode cX7_mendCulprit 18 = .ok (.bipush (-4), 2) := by decide +kernel
theorem dX7_mendCulprit_20 : decode cX7_mendCulprit 20 = .ok (.ireturn, 1) := by decide +kernel
theorem dX7_mendCulprit_21 : decode cX7_mendCulprit 21 = .ok (.aload_n 0, 1) := by decide +kernel
theorem dX7_mendCulprit_22 : decode cX7_mendCulprit 22 = .ok (.getfield 58, 3) := by decide +kernel
theorem dX7_mendCulprit_25 : decode cX7_mendCulprit 25 = .ok (.invokevirtual 246, 3) := by decide +kernel
theorem dX7_mendCulprit_28 : decode cX7_mendCulprit 28 = .ok (.ifCond .eq 6, 3) := by decide +kernel
theorem dX7_mendCulprit_31 : decode cX7_mendCulprit 31 = .ok (.bipush (-3), 2) := by decide +kernel
theorem dX7_mendCulprit_33 : decode cX7_mendCulprit 33 = .ok (.ireturn, 1) := by decide +kernel
theorem dX7_mendCulprit_34 : decode cX7_mendCulprit 34 = .ok (.aload_n 0, 1) := by decide +kernel
theorem dX7_mendCulprit_35 : decode cX7_mendCulprit 35 = .ok (.getfield 44, 3) := by decide +kernel
theorem dX7_mendCulprit_38 : decode cX7_mendCulprit 38 = .ok (.iload_n 1, 1) := by decide +kernel
theorem dX7_mendCulprit_39 : decode cX7_mendCulprit 39 = .ok (.iconst 0, 1) := by decide +kernel
theorem dX7_mendCulprit_40 : decode cX7_mendCulprit 40 = .ok (.invokevirtual 240, 3) := by decide +kernel
theorem dX7_mendCulprit_43 : decode cX7_mendCulprit 43 = .ok (.istore_n 2, 1) := by decide +kernel
theorem dX7_mendCulprit_44 : decode cX7_mendCulprit 44 = .ok (.aload_n 0, 1) := by decide +kernel
theorem dX7_mendCulprit_45 : decode cX7_mendCulprit 45 = .ok (.getfield 44, 3) := by decide +kernel
theorem dX7_mendCulprit_48 : decode cX7_mendCulprit 48 = .ok (.iload_n 1, 1) := by decide +kernel
theorem dX7_mendCulprit_49 : decode cX7_mendCulprit 49 = .ok (.iconst 1, 1) := by decide +kernel
theorem dX7_mendCulprit_50 : decode cX7_mendCulprit 50 = .ok (.invokevirtual 240, 3) := by decide +kernel
theorem dX7_mendCulprit_53 : decode cX7_mendCulprit 53 = .ok (.istore_n 3, 1) := by decide +kernel
theorem dX7_mendCulprit_54 : decode cX7_mendCulprit 54 = .ok (.aload_n 0, 1) := by decide +kernel
theorem dX7_mendCulprit_55 : decode cX7_mendCulprit 55 = .ok (.getfield 44, 3) := by decide +kernel
theorem dX7_mendCulprit_58 : decode cX7_mendCulprit 58 = .ok (.iload_n 1, 1) := by decide +kernel
theorem dX7_mendCulprit_59 : decode cX7_mendCulprit 59 = .ok (.iconst 3, 1) := by decide +kernel
theorem dX7_mendCulprit_60 : decode cX7_mendCulprit 60 = .ok (.invokevirtual 240, 3) := by decide +kernel
theorem dX7_mendCulprit_63 : decode cX7_mendCulprit 63 = .ok (.istore 4, 2) := by decide +kernel
theorem dX7_mendCulprit_65 : decode cX7_mendCulprit 65 = .ok (.iload 4, 2) := by decide +kernel
theorem dX7_mendCulprit_67 : decode cX7_mendCulprit 67 = .ok (.ifCond .eq 17, 3) := by decide +kernel
theorem dX7_mendCulprit_70 : decode cX7_mendCulprit 70 = .ok (.aload_n 0, 1) := by decide +kernel
theorem dX7_mendCulprit_71 : decode cX7_mendCulprit 71 = .ok (.getfield 19, 3) := by decide +kernel
theorem dX7_mendCulprit_74 : decode cX7_mendCulprit 74 = .ok (.iload_n 2, 1) := by decide +kernel
theorem dX7_mendCulprit_75 : decode cX7_mendCulprit 75 = .ok (.iload_n 3, 1) := by decide +kernel
theorem dX7_mendCulprit_76 : decode cX7_mendCulprit 76 = .ok (.iload 4, 2) := by decide +kernel
theorem dX7_mendCulprit_78 : decode cX7_mendCulprit 78 = .ok (.invokevirtual 250, 3) := by decide +kernel
theorem dX7_mendCulprit_81 : decode cX7_mendCulprit 81 = .ok (.ifCond .ne 6, 3) := by decide +kernel
theorem dX7_mendCulprit_84 : decode cX7_mendCulprit 84 = .ok (.bipush (-2), 2) := by decide +kernel
theorem dX7_mendCulprit_86 : decode cX7_mendCulprit 86 = .ok (.ireturn, 1) := by decide +kernel
theorem dX7_mendCulprit_87 : decode cX7_mendCulprit 87 = .ok (.aload_n 0, 1) := by decide +kernel
theorem dX7_mendCulprit_88 : decode cX7_mendCulprit 88 = .ok (.getfield 51, 3) := by decide +kernel
theorem dX7_mendCulprit_91 : decode cX7_mendCulprit 91 = .ok (.iconst 3, 1) := by decide +kernel
theorem dX7_mendCulprit_92 : decode cX7_mendCulprit 92 = .ok (.iload_n 2, 1) := by decide +kernel
theorem dX7_mendCulprit_93 : decode cX7_mendCulprit 93 = .ok (.iload_n 3, 1) := by decide +kernel
theorem dX7_mendCulprit_94 : decode cX7_mendCulprit 94 = .ok (.iload 4, 2) := by decide +kernel
theorem dX7_mendCulprit_96 : decode cX7_mendCulprit 96 = .ok (.invokevirtual 123, 3) := by decide +kernel
theorem dX7_mendCulprit_99 : decode cX7_mendCulprit 99 = .ok (.aload_n 0, 1) := by decide +kernel
theorem dX7_mendCulprit_100 : decode cX7_mendCulprit 100 = .ok (.getfield 19, 3) := by decide +kernel
theorem dX7_mendCulprit_103 : decode cX7_mendCulprit 103 = .ok (.iload_n 2, 1) := by decide +kernel
theorem dX7_mendCulprit_104 : decode cX7_mendCulprit 104 = .ok (.iload_n 3, 1) := by decide +kernel
theorem dX7_mendCulprit_105 : decode cX7_mendCulprit 105 = .ok (.iload 4, 2) := by decide +kernel
theorem dX7_mendCulprit_107 : decode cX7_mendCulprit 107 = .ok (.invokevirtual 163, 3) := by decide +kernel
theorem dX7_mendCulprit_110 : decode cX7_mendCulprit 110 = .ok (.aload_n 0, 1) := by decide +kernel
theorem dX7_mendCulprit_111 : decode cX7_mendCulprit 111 = .ok (.getfield 58, 3) := by decide +kernel
theorem dX7_mendCulprit_114 : decode cX7_mendCulprit 114 = .ok (.iload_n 2, 1) := by decide +kernel
theorem dX7_mendCulprit_115 : decode cX7_mendCulprit 115 = .ok (.iload_n 3, 1) := by decide +kernel
theorem dX7_mendCulprit_116 : decode cX7_mendCulprit 116 = .ok (.iload 4, 2) := by decide +kernel
theorem dX7_mendCulprit_118 : decode cX7_mendCulprit 118 = .ok (.invokevirtual 253, 3) := by decide +kernel
theorem dX7_mendCulprit_121 : decode cX7_mendCulprit 121 = .ok (.aload_n 0, 1) := by decide +kernel
theorem dX7_mendCulprit_122 : decode cX7_mendCulprit 122 = .ok (.getfield 58, 3) := by decide +kernel
theorem dX7_mendCulprit_125 : decode cX7_mendCulprit 125 = .ok (.invokevirtual 255, 3) := by decide +kernel
theorem dX7_mendCulprit_128 : decode cX7_mendCulprit 128 = .ok (.ireturn, 1) := by decide +kernel
theorem dX7_mends_0 : decode cX7_mends 0 = .ok (.iconst 0, 1) := by decide +kernel
theorem dX7_mends_1 : decode cX7_mends 1 = .ok (.istore_n 1, 1) := by decide +kernel
theorem dX7_mends_2 : decode cX7_mends 2 = .ok (.iload_n 1, 1) := by decide +kernel
theorem dX7_mends_3 : decode cX7_mends 3 = .ok (.bipush 12, 2) := by decide +kernel
theorem dX7_mends_5 : decode cX7_mends 5 = .ok (.if_icmp .ge 17, 3) := by decide +kernel
theorem dX7_mends_8 : decode cX7_mends 8 = .ok (.aload_n 0, 1) := by decide +kernel
theorem dX7_mends_9 : decode cX7_mends 9 = .ok (.iconst 0, 1) := by decide +kernel
theorem dX7_mends_10 : decode cX7_mends 10 = .ok (.invokevirtual 243, 3) := by decide +kernel
theorem dX7_mends_13 : decode cX7_mends 13 = .ok (.ifCond .le 9, 3) := by decide +kernel
theorem dX7_mends_16 : decode cX7_mends 16 = .ok (.iinc 1 1, 3) := by decide +kernel
theorem dX7_mends_19 : decode cX7_mends 19 = .ok (.goto (-17), 3) := by decide +kernel
theorem dX7_mends_22 : decode cX7_mends 22 = .ok (.iload_n 1, 1) := by decide +kernel
theorem dX7_mends_23 : decode cX7_mends 23 = .ok (.ireturn, 1) := by decide +kernel
theorem dX7_ledger_0 : decode cX7_ledger 0 = .ok (.iload_n 1, 1) := by decide +kernel
theorem dX7_ledger_1 : decode cX7_ledger 1 = .ok (.iconst (-1), 1) := by decide +kernel
theorem dX7_ledger_2 : decode cX7_ledger 2 = .ok (.if_icmp .lt 12, 3) := by decide +kernel
theorem dX7_ledger_5 : decode cX7_ledger 5 = .ok (.iload_n 2, 1) := by decide +kernel
theorem dX7_ledger_6 : decode cX7_ledger 6 = .ok (.ifCond .lt 8, 3) := by decide +kernel
theorem dX7_ledger_9 : decode cX7_ledger 9 = .ok (.iload_n 2, 1) := by decide +kernel
theorem dX7_ledger_10 : decode cX7_ledger 10 = .ok (.iconst 3, 1) := by decide +kernel
theorem dX7_ledger_11 : decode cX7_ledger 11 = .ok (.if_icmp .lt 5, 3) := by decide +kernel
theorem dX7_ledger_14 : decode cX7_ledger 14 = .ok (.iconst (-1), 1) := by decide +kernel
theorem dX7_ledger_15 : decode cX7_ledger 15 = .ok (.ireturn, 1) := by decide +kernel
theorem dX7_ledger_16 : decode cX7_ledger 16 = .ok (.iload_n 1, 1) := by decide +kernel
theorem dX7_ledger_17 : decode cX7_ledger 17 = .ok (.iconst (-1), 1) := by decide +kernel
theorem dX7_ledger_18 : decode cX7_ledger 18 = .ok (.if_icmp .ne 11, 3) := by decide +kernel
theorem dX7_ledger_21 : decode cX7_ledger 21 = .ok (.aload_n 0, 1) := by decide +kernel
theorem dX7_ledger_22 : decode cX7_ledger 22 = .ok (.getfield 58, 3) := by decide +kernel
theorem dX7_ledger_25 : decode cX7_ledger 25 = .ok (.invokevirtual 255, 3) := by decide +kernel
theorem dX7_ledger_28 : decode cX7_ledger 28 = .ok (.ireturn, 1) := by decide +kernel
theorem dX7_ledger_29 : decode cX7_ledger 29 = .ok (.iload_n 1, 1) := by decide +kernel
theorem dX7_ledger_30 : decode cX7_ledger 30 = .ok (.aload_n 0, 1) := by decide +kernel
theorem dX7_ledger_31 : decode cX7_ledger 31 = .ok (.getfield 58, 3) := by decide +kernel
theorem dX7_ledger_34 : decode cX7_ledger 34 = .ok (.invokevirtual 255, 3) := by decide +kernel
theorem dX7_ledger_37 : decode cX7_ledger 37 = .ok (.if_icmp .lt 6, 3) := by decide +kernel
theorem dX7_ledger_40 : decode cX7_ledger 40 = .ok (.bipush (-4), 2) := by decide +kernel
theorem dX7_ledger_42 : decode cX7_ledger 42 = .ok (.ireturn, 1) := by decide +kernel
theorem dX7_ledger_43 : decode cX7_ledger 43 = .ok (.iload_n 2, 1) := by decide +kernel
theorem dX7_ledger_44 : decode cX7_ledger 44 = .ok (.iconst 2, 1) := by decide +kernel
theorem dX7_ledger_45 : decode cX7_ledger 45 = .ok (.if_icmp .ne 18, 3) := by decide +kernel
theorem dX7_ledger_48 : decode cX7_ledger 48 = .ok (.aload_n 0, 1) := by decide +kernel
theorem dX7_ledger_49 : decode cX7_ledger 49 = .ok (.getfield 58, 3) := by decide +kernel
theorem dX7_ledger_52 : decode cX7_ledger 52 = .ok (.iload_n 1, 1) := by decide +kernel
theorem dX7_ledger_53 : decode cX7_ledger 53 = .ok (.iload_n 2, 1) := by decide +kernel
theorem dX7_ledger_54 : decode cX7_ledger 54 = .ok (.invokevirtual 256, 3) := by decide +kernel
theorem dX7_ledger_57 : decode cX7_ledger 57 = .ok (.ldc 114, 2) := by decide +kernel
theorem dX7_ledger_59 : decode cX7_ledger 59 = .ok (.iadd, 1) := by decide +kernel
theorem dX7_ledger_60 : decode cX7_ledger 60 = .ok (.goto 12, 3) := by decide +kernel
theorem dX7_ledger_63 : decode cX7_ledger 63 = .ok (.aload_n 0, 1) := by decide +kernel
theorem dX7_ledger_64 : decode cX7_ledger 64 = .ok (.getfield 58, 3) := by decide +kernel
theorem dX7_ledger_67 : decode cX7_ledger 67 = .ok (.iload_n 1, 1) := by decide +kernel
theorem dX7_ledger_68 : decode cX7_ledger 68 = .ok (.iload_n 2, 1) := by decide +kernel
theorem dX7_ledger_69 : decode cX7_ledger 69 = .ok (.invokevirtual 256, 3) := by decide +kernel
theorem dX7_ledger_72 : decode cX7_ledger 72 = .ok (.ireturn, 1) := by decide +kernel
theorem dX7_made_0 : decode cX7_made 0 = .ok (.aload_n 0, 1) := by decide +kernel
theorem dX7_made_1 : decode cX7_made 1 = .ok (.iload_n 1, 1) := by decide +kernel
theorem dX7_made_2 : decode cX7_made 2 = .ok (.iload_n 2, 1) := by decide +kernel
theorem dX7_made_3 : decode cX7_made 3 = .ok (.invokevirtual 257, 3) := by decide +kernel
theorem dX7_made_6 : decode cX7_made 6 = .ok (.ireturn, 1) := by decide +kernel
theorem dX7_make_0 : decode cX7_make 0 = .ok (.aload_n 0, 1) := by decide +kernel
theorem dX7_make_1 : decode cX7_make 1 = .ok (.iload_n 1, 1) := by decide +kernel
theorem dX7_make_2 : decode cX7_make 2 = .ok (.iload_n 2, 1) := by decide +kernel
theorem dX7_make_3 : decode cX7_make 3 = .ok (.invokevirtual 257, 3) := by decide +kernel
theorem dX7_make_6 : decode cX7_make 6 = .ok (.istore_n 3, 1) := by decide +kernel
theorem dX7_make_7 : decode cX7_make 7 = .ok (.iload_n 3, 1) := by decide +kernel
theorem dX7_make_8 : decode cX7_make 8 = .ok (.ifCond .ge 5, 3) := by decide +kernel
theorem dX7_make_11 : decode cX7_make 11 = .ok (.iload_n 3, 1) := by decide +kernel
theorem dX7_make_12 : decode cX7_make 12 = .ok (.ireturn, 1) := by decide +kernel
theorem dX7_make_13 : decode cX7_make 13 = .ok (.iload_n 3, 1) := by decide +kernel
theorem dX7_make_14 : decode cX7_make 14 = .ok (.ldc 114, 2) := by decide +kernel
theorem dX7_make_16 : decode cX7_make 16 = .ok (.isub, 1) := by decide +kernel
theorem dX7_make_17 : decode cX7_make 17 = .ok (.invokestatic 115, 3) := by decide +kernel
theorem dX7_make_20 : decode cX7_make 20 = .ok (.ifCond .ne 6, 3) := by decide +kernel
theorem dX7_make_23 : decode cX7_make 23 = .ok (.bipush (-3), 2) := by decide +kernel
theorem dX7_make_25 : decode cX7_make 25 = .ok (.ireturn, 1) := by decide +kernel
theorem dX7_make_26 : decode cX7_make 26 = .ok (.aload_n 0, 1) := by decide +kernel
theorem dX7_make_27 : decode cX7_make 27 = .ok (.iload_n 1, 1) := by decide +kernel
theorem dX7_make_28 : decode cX7_make 28 = .ok (.iload_n 2, 1) := by decide +kernel
theorem dX7_make_29 : decode cX7_make 29 = .ok (.iload_n 3, 1) := by decide +kernel
theorem dX7_make_30 : decode cX7_make 30 = .ok (.ldc 114, 2) := by decide +kernel
theorem dX7_make_32 : decode cX7_make 32 = .ok (.isub, 1) := by decide +kernel
theorem dX7_make_33 : decode cX7_make 33 = .ok (.invokevirtual 119, 3) := by decide +kernel
theorem dX7_make_36 : decode cX7_make 36 = .ok (.pop, 1) := by decide +kernel
theorem dX7_make_37 : decode cX7_make 37 = .ok (.iload_n 3, 1) := by decide +kernel
theorem dX7_make_38 : decode cX7_make 38 = .ok (.ireturn, 1) := by decide +kernel
theorem dX7_estimate_0 : decode cX7_estimate 0 = .ok (.aload_n 0, 1) := by decide +kernel
theorem dX7_estimate_1 : decode cX7_estimate 1 = .ok (.getfield 19, 3) := by decide +kernel
theorem dX7_estimate_4 : decode cX7_estimate 4 = .ok (.iload_n 1, 1) := by decide +kernel
theorem dX7_estimate_5 : decode cX7_estimate 5 = .ok (.iload_n 2, 1) := by decide +kernel
theorem dX7_estimate_6 : decode cX7_estimate 6 = .ok (.invokevirtual 101, 3) := by decide +kernel
theorem dX7_estimate_9 : decode cX7_estimate 9 = .ok (.ifCond .ne 5, 3) := by decide +kernel
theorem dX7_estimate_12 : decode cX7_estimate 12 = .ok (.iconst (-1), 1) := by decide +kernel
theorem dX7_estimate_13 : decode cX7_estimate 13 = .ok (.ireturn, 1) := by decide +kernel
theorem dX7_estimate_14 : decode cX7_estimate 14 = .ok (.aload_n 0, 1) := by decide +kernel
theorem dX7_estimate_15 : decode cX7_estimate 15 = .ok (.getfield 19, 3) := by decide +kernel
theorem dX7_estimate_18 : decode cX7_estimate 18 = .ok (.iload_n 1, 1) := by decide +kernel
theorem dX7_estimate_19 : decode cX7_estimate 19 = .ok (.iload_n 2, 1) := by decide +kernel
theorem dX7_estimate_20 : decode cX7_estimate 20 = .ok (.invokevirtual 260, 3) := by decide +kernel
theorem dX7_estimate_23 : decode cX7_estimate 23 = .ok (.ifCond .eq 6, 3) := by decide +kernel
theorem dX7_estimate_26 : decode cX7_estimate 26 = .ok (.bipush (-2), 2) := by decide +kernel
theorem dX7_estimate_28 : decode cX7_estimate 28 = .ok (.ireturn, 1) := by decide +kernel
theorem dX7_estimate_29 : decode cX7_estimate 29 = .ok (.lconst 0, 1) := by decide +kernel
theorem dX7_estimate_30 : decode cX7_estimate 30 = .ok (.lstore_n 3, 1) := by decide +kernel
theorem dX7_estimate_31 : decode cX7_estimate 31 = .ok (.iconst 0, 1) := by decide +kernel
theorem dX7_estimate_32 : decode cX7_estimate 32 = .ok (.istore 5, 2) := by decide +kernel
theorem dX7_estimate_34 : decode cX7_estimate 34 = .ok (.iconst 0, 1) := by decide +kernel
theorem dX7_estimate_35 : decode cX7_estimate 35 = .ok (.istore 6, 2) := by decide +kernel
theorem dX7_estimate_37 : decode cX7_estimate 37 = .ok (.iload 6, 2) := by decide +kernel
theorem dX7_estimate_39 : decode cX7_estimate 39 = .ok (.aload_n 0, 1) := by decide +kernel
theorem dX7_estimate_40 : decode cX7_estimate 40 = .ok (.getfield 19, 3) := by decide +kernel
theorem dX7_estimate_43 : decode cX7_estimate 43 = .ok (.invokevirtual 92, 3) := by decide +kernel
theorem dX7_estimate_46 : decode cX7_estimate 46 = .ok (.if_icmp .ge 102, 3) := by decide +kernel
theorem dX7_estimate_49 : decode cX7_estimate 49 = .ok (.iload 6, 2) := by decide +kernel
theorem dX7_estimate_51 : decode cX7_estimate 51 = .ok (.iload_n 1, 1) := by decide +kernel
theorem dX7_estimate_52 : decode cX7_estimate 52 = .ok (.if_icmp .eq 90, 3) := by decide +kernel
theorem dX7_estimate_55 : decode cX7_estimate 55 = .ok (.aload_n 0, 1) := by decide +kernel
theorem dX7_estimate_56 : decode cX7_estimate 56 = .ok (.getfield 19, 3) := by decide +kernel
theorem dX7_estimate_59 : decode cX7_estimate 59 = .ok (.iload 6, 2) := by decide +kernel
theorem dX7_estimate_61 : decode cX7_estimate 61 = .ok (.iload_n 2, 1) := by decide +kernel
theorem dX7_estimate_62 : decode cX7_estimate 62 = .ok (.invokevirtual 260, 3) := by decide +kernel
theorem dX7_estimate_65 : decode cX7_estimate 65 = .ok (.ifCond .eq 77, 3) := by decide +kernel
theorem dX7_estimate_68 : decode cX7_estimate 68 = .ok (.aload_n 0, 1) := by decide +kernel
theorem dX7_estimate_69 : decode cX7_estimate 69 = .ok (.getfield 19, 3) := by decide +kernel
theorem dX7_estimate_72 : decode cX7_estimate 72 = .ok (.iload_n 1, 1) := by decide +kernel
theorem dX7_estimate_73 : decode cX7_estimate 73 = .ok (.iload 6, 2) := by decide +kernel
theorem dX7_estimate_75 : decode cX7_estimate 75 = .ok (.invokevirtual 193, 3) := by decide +kernel
theorem dX7_estimate_78 : decode cX7_estimate 78 = .ok (.ifCond .eq 64, 3) := by decide +kernel
theorem dX7_estimate_81 : decode cX7_estimate 81 = .ok (.aload_n 0, 1) := by decide +kernel
theorem dX7_estimate_82 : decode cX7_estimate 82 = .ok (.getfield 26, 3) := by decide +kernel
theorem dX7_estimate_85 : decode cX7_estimate 85 = .ok (.aload_n 0, 1) := by decide +kernel
theorem dX7_estimate_86 : decode cX7_estimate 86 = .ok (.getfield 19, 3) := by decide +kernel
theorem dX7_estimate_89 : decode cX7_estimate 89 = .ok (.iload_n 1, 1) := by decide +kernel
theorem dX7_estimate_90 : decode cX7_estimate 90 = .ok (.iload 6, 2) := by decide +kernel
theorem dX7_estimate_92 : decode cX7_estimate 92 = .ok (.invokevirtual 196, 3) := by decide +kernel
theorem dX7_estimate_95 : decode cX7_estimate 95 = .ok (.aload_n 0, 1) := by decide +kernel
theorem dX7_estimate_96 : decode cX7_estimate 96 = .ok (.getfield 26, 3) := by decide +kernel
theorem dX7_estimate_99 : decode cX7_estimate 99 = .ok (.invokevirtual 200, 3) := by decide +kernel
theorem dX7_estimate_102 : decode cX7_estimate 102 = .ok (.ifCond .le 40, 3) := by decide +kernel
theorem dX7_estimate_105 : decode cX7_estimate 105 = .ok (.lload_n 3, 1) := by decide +kernel
theorem dX7_estimate_106 : decode cX7_estimate 106 = .ok (.ldc2_w 263, 3) := by decide +kernel
theorem dX7_estimate_109 : decode cX7_estimate 109 = .ok (.aload_n 0, 1) := by decide +kernel
theorem dX7_estimate_110 : decode cX7_estimate 110 = .ok (.getfield 19, 3) := by decide +kernel
theorem dX7_estimate_113 : decode cX7_estimate 113 = .ok (.iload 6, 2) := by decide +kernel
theorem dX7_estimate_115 : decode cX7_estimate 115 = .ok (.iload_n 2, 1) := by decide +kernel
theorem dX7_estimate_116 : decode cX7_estimate 116 = .ok (.invokevirtual 105, 3) := by decide +kernel
theorem dX7_estimate_119 : decode cX7_estimate 119 = .ok (.i2l, 1) := by decide +kernel
theorem dX7_estimate_120 : decode cX7_estimate 120 = .ok (.lmul, 1) := by decide +kernel
theorem dX7_estimate_121 : decode cX7_estimate 121 = .ok (.aload_n 0, 1) := by decide +kernel
theorem dX7_estimate_122 : decode cX7_estimate 122 = .ok (.getfield 26, 3) := by decide +kernel
theorem dX7_estimate_125 : decode cX7_estimate 125 = .ok (.iconst 0, 1) := by decide +kernel
theorem dX7_estimate_126 : decode cX7_estimate 126 = .ok (.aload_n 0, 1) := by decide +kernel
theorem dX7_estimate_127 : decode cX7_estimate 127 = .ok (.getfield 26, 3) := by decide +kernel
theorem dX7_estimate_130 : decode cX7_estimate 130 = .ok (.invokevirtual 200, 3) := by decide +kernel
theorem dX7_estimate_133 : decode cX7_estimate 133 = .ok (.invokevirtual 265, 3) := by decide +kernel
theorem dX7_estimate_136 : decode cX7_estimate 136 = .ok (.ladd, 1) := by decide +kernel
theorem dX7_estimate_137 : decode cX7_estimate 137 = .ok (.ladd, 1) := by decide +kernel
theorem dX7_estimate_138 : decode cX7_estimate 138 = .ok (.lstore_n 3, 1) := by decide +kernel
theorem dX7_estimate_139 : decode cX7_estimate 139 = .ok (.iinc 5 1, 3) := by decide +kernel
theorem dX7_estimate_142 : decode cX7_estimate 142 = .ok (.iinc 6 1, 3) := by decide +kernel
theorem dX7_estimate_145 : decode cX7_estimate 145 = .ok (.goto (-108), 3) := by decide +kernel
theorem dX7_estimate_148 : decode cX7_estimate 148 = .ok (.iload 5, 2) := by decide +kernel
theorem dX7_estimate_150 : decode cX7_estimate 150 = .ok (.ifCond .ne 8, 3) := by decide +kernel
theorem dX7_estimate_153 : decode cX7_estimate 153 = .ok (.bipush (-4), 2) := by decide +kernel
theorem dX7_estimate_155 : decode cX7_estimate 155 = .ok (.goto 12, 3) := by decide +kernel
theorem dX7_estimate_158 : decode cX7_estimate 158 = .ok (.lload_n 3, 1) := by decide +kernel
theorem dX7_estimate_159 : decode cX7_estimate 159 = .ok (.iload 5, 2) := by decide +kernel
theorem dX7_estimate_161 : decode cX7_estimate 161 = .ok (.invokestatic 268, 3) := by decide +kernel
theorem dX7_estimate_164 : decode cX7_estimate 164 = .ok (.ldc 114, 2) := by decide +kernel
theorem dX7_estimate_166 : decode cX7_estimate 166 = .ok (.iadd, 1) := by decide +kernel
theorem dX7_estimate_167 : decode cX7_estimate 167 = .ok (.ireturn, 1) := by decide +kernel
theorem dX7_roundedMean_0 : decode cX7_roundedMean 0 = .ok (.iload_n 2, 1) := by decide +kernel
theorem dX7_roundedMean_1 : decode cX7_roundedMean 1 = .ok (.iconst 1, 1) := by decide +kernel
theorem dX7_roundedMean_2 : decode cX7_roundedMean 2 = .ok (.if_icmp .ge 5, 3) := by decide +kernel
theorem dX7_roundedMean_5 : decode cX7_roundedMean 5 = .ok (.iconst 0, 1) := by decide +kernel
theorem dX7_roundedMean_6 : decode cX7_roundedMean 6 = .ok (.ireturn, 1) := by decide +kernel
theorem dX7_roundedMean_7 : decode cX7_roundedMean 7 = .ok (.ldc2_w 263, 3) := by decide +kernel
theorem dX7_roundedMean_10 : decode cX7_roundedMean 10 = .ok (.iload_n 2, 1) := by decide +kernel
theorem dX7_roundedMean_11 : decode cX7_roundedMean 11 = .ok (.i2l, 1) := by decide +kernel
theorem dX7_roundedMean_12 : decode cX7_roundedMean 12 = .ok (.lmul, 1) := by decide +kernel
theorem dX7_roundedMean_13 : decode cX7_roundedMean 13 = .ok (.lstore_n 3, 1) := by decide +kernel
theorem dX7_roundedMean_14 : decode cX7_roundedMean 14 = .ok (.ldc2_w 272, 3) := by decide +kernel
theorem dX7_roundedMean_17 : decode cX7_roundedMean 17 = .ok (.lload_n 0, 1) := by decide +kernel
theorem dX7_roundedMean_18 : decode cX7_roundedMean 18 = .ok (.lmul, 1) := by decide +kernel
theorem dX7_roundedMean_19 : decode cX7_roundedMean 19 = .ok (.lload_n 3, 1) := by decide +kernel
theorem dX7_roundedMean_20 : decode cX7_roundedMean 20 = .ok (.ladd, 1) := by decide +kernel
theorem dX7_roundedMean_21 : decode cX7_roundedMean 21 = .ok (.ldc2_w 272, 3) := by decide +kernel
theorem dX7_roundedMean_24 : decode cX7_roundedMean 24 = .ok (.lload_n 3, 1) := by decide +kernel
theorem dX7_roundedMean_25 : decode cX7_roundedMean 25 = .ok (.lmul, 1) := by decide +kernel
theorem dX7_roundedMean_26 : decode cX7_roundedMean 26 = .ok (.invokestatic 274, 3) := by decide +kernel
theorem dX7_roundedMean_29 : decode cX7_roundedMean 29 = .ok (.l2i, 1) := by decide +kernel
theorem dX7_roundedMean_30 : decode cX7_roundedMean 30 = .ok (.ireturn, 1) := by decide +kernel
theorem dX7_rise_0 : decode cX7_rise 0 = .ok (.aload_n 0, 1) := by decide +kernel
theorem dX7_rise_1 : decode cX7_rise 1 = .ok (.getfield 19, 3) := by decide +kernel
theorem dX7_rise_4 : decode cX7_rise 4 = .ok (.iload_n 1, 1) := by decide +kernel
theorem dX7_rise_5 : decode cX7_rise 5 = .ok (.invokevirtual 184, 3) := by decide +kernel
theorem dX7_rise_8 : decode cX7_rise 8 = .ok (.ifCond .ne 5, 3) := by decide +kernel
theorem dX7_rise_11 : decode cX7_rise 11 = .ok (.iconst (-1), 1) := by decide +kernel
theorem dX7_rise_12 : decode cX7_rise 12 = .ok (.ireturn, 1) := by decide +kernel
theorem dX7_rise_13 : decode cX7_rise 13 = .ok (.iconst 0, 1) := by decide +kernel
theorem dX7_rise_14 : decode cX7_rise 14 = .ok (.istore_n 2, 1) := by decide +kernel
theorem dX7_rise_15 : decode cX7_rise 15 = .ok (.iconst 1, 1) := by decide +kernel
theorem dX7_rise_16 : decode cX7_rise 16 = .ok (.istore_n 3, 1) := by decide +kernel
theorem dX7_rise_17 : decode cX7_rise 17 = .ok (.iload_n 3, 1) := by decide +kernel
theorem dX7_rise_18 : decode cX7_rise 18 = .ok (.aload_n 0, 1) := by decide +kernel
theorem dX7_rise_19 : decode cX7_rise 19 = .ok (.getfield 19, 3) := by decide +kernel
theorem dX7_rise_22 : decode cX7_rise 22 = .ok (.invokevirtual 181, 3) := by decide +kernel
theorem dX7_rise_25 : decode cX7_rise 25 = .ok (.if_icmp .ge 74, 3) := by decide +kernel
theorem dX7_rise_28 : decode cX7_rise 28 = .ok (.iconst 0, 1) := by decide +kernel
theorem dX7_rise_29 : decode cX7_rise 29 = .ok (.istore 4, 2) := by decide +kernel
theorem dX7_rise_31 : decode cX7_rise 31 = .ok (.iload 4, 2) := by decide +kernel
theorem dX7_rise_33 : decode cX7_rise 33 = .ok (.iload_n 3, 1) := by decide +kernel
theorem dX7_rise_34 : decode cX7_rise 34 = .ok (.if_icmp .ge 59, 3) := by decide +kernel
theorem dX7_rise_37 : decode cX7_rise 37 = .ok (.aload_n 0, 1) := by decide +kernel
theorem dX7_rise_38 : decode cX7_rise 38 = .ok (.getfield 19, 3) := by decide +kernel
theorem dX7_rise_41 : decode cX7_rise 41 = .ok (.iload_n 1, 1) := by decide +kernel
theorem dX7_rise_42 : decode cX7_rise 42 = .ok (.iload 4, 2) := by decide +kernel
theorem dX7_rise_44 : decode cX7_rise 44 = .ok (.invokevirtual 260, 3) := by decide +kernel
theorem dX7_rise_47 : decode cX7_rise 47 = .ok (.ifCond .eq 40, 3) := by decide +kernel
theorem dX7_rise_50 : decode cX7_rise 50 = .ok (.aload_n 0, 1) := by decide +kernel
theorem dX7_rise_51 : decode cX7_rise 51 = .ok (.getfield 19, 3) := by decide +kernel
theorem dX7_rise_54 : decode cX7_rise 54 = .ok (.iload_n 1, 1) := by decide +kernel
theorem dX7_rise_55 : decode cX7_rise 55 = .ok (.iload_n 3, 1) := by decide +kernel
theorem dX7_rise_56 : decode cX7_rise 56 = .ok (.invokevirtual 260, 3) := by decide +kernel
theorem dX7_rise_59 : decode cX7_rise 59 = .ok (.ifCond .eq 28, 3) := by decide +kernel
theorem dX7_rise_62 : decode cX7_rise 62 = .ok (.iload_n 2, 1) := by decide +kernel
theorem dX7_rise_63 : decode cX7_rise 63 = .ok (.aload_n 0, 1) := by decide +kernel
theorem dX7_rise_64 : decode cX7_rise 64 = .ok (.getfield 19, 3) := by decide +kernel
theorem dX7_rise_67 : decode cX7_rise 67 = .ok (.iload_n 1, 1) := by decide +kernel
theorem dX7_rise_68 : decode cX7_rise 68 = .ok (.iload 4, 2) := by decide +kernel
theorem dX7_rise_70 : decode cX7_rise 70 = .ok (.invokevirtual 105, 3) := by decide +kernel
theorem dX7_rise_73 : decode cX7_rise 73 = .ok (.aload_n 0, 1) := by decide +kernel
theorem dX7_rise_74 : decode cX7_rise 74 = .ok (.getfield 19, 3) := by decide +kernel
theorem dX7_rise_77 : decode cX7_rise 77 = .ok (.iload_n 1, 1) := by decide +kernel
theorem dX7_rise_78 : decode cX7_rise 78 = .ok (.iload_n 3, 1) := by decide +kernel
theorem dX7_rise_79 : decode cX7_rise 79 = .ok (.invokevirtual 105, 3) := by decide +kernel
theorem dX7_rise_82 : decode cX7_rise 82 = .ok (.invokestatic 280, 3) := by decide +kernel
theorem dX7_rise_85 : decode cX7_rise 85 = .ok (.iadd, 1) := by decide +kernel
theorem dX7_rise_86 : decode cX7_rise 86 = .ok (.istore_n 2, 1) := by decide +kernel
theorem dX7_rise_87 : decode cX7_rise 87 = .ok (.iinc 4 1, 3) := by decide +kernel
theorem dX7_rise_90 : decode cX7_rise 90 = .ok (.goto (-59), 3) := by decide +kernel
theorem dX7_rise_93 : decode cX7_rise 93 = .ok (.iinc 3 1, 3) := by decide +kernel
theorem dX7_rise_96 : decode cX7_rise 96 = .ok (.goto (-79), 3) := by decide +kernel
theorem dX7_rise_99 : decode cX7_rise 99 = .ok (.iload_n 2, 1) := by decide +kernel
theorem dX7_rise_100 : decode cX7_rise 100 = .ok (.ldc 114, 2) := by decide +kernel
theorem dX7_rise_102 : decode cX7_rise 102 = .ok (.iadd, 1) := by decide +kernel
theorem dX7_rise_103 : decode cX7_rise 103 = .ok (.ireturn, 1) := by decide +kernel
theorem dX7_direction_0 : decode cX7_direction 0 = .ok (.iload_n 0, 1) := by decide +kernel
theorem dX7_direction_1 : decode cX7_direction 1 = .ok (.iload_n 1, 1) := by decide +kernel
theorem dX7_direction_2 : decode cX7_direction 2 = .ok (.if_icmp .ne 5, 3) := by decide +kernel
theorem dX7_direction_5 : decode cX7_direction 5 = .ok (.iconst 0, 1) := by decide +kernel
theorem dX7_direction_6 : decode cX7_direction 6 = .ok (.ireturn, 1) := by decide +kernel
theorem dX7_direction_7 : decode cX7_direction 7 = .ok (.iload_n 0, 1) := by decide +kernel
theorem dX7_direction_8 : decode cX7_direction 8 = .ok (.iload_n 1, 1) := by decide +kernel
theorem dX7_direction_9 : decode cX7_direction 9 = .ok (.if_icmp .ge 7, 3) := by decide +kernel
theorem dX7_direction_12 : decode cX7_direction 12 = .ok (.iconst 1, 1) := by decide +kernel
theorem dX7_direction_13 : decode cX7_direction 13 = .ok (.goto 4, 3) := by decide +kernel
theorem dX7_direction_16 : decode cX7_direction 16 = .ok (.iconst (-1), 1) := by decide +kernel
theorem dX7_direction_17 : decode cX7_direction 17 = .ok (.ireturn, 1) := by decide +kernel
theorem dX7_count_0 : decode cX7_count 0 = .ok (.iload_n 1, 1) := by decide +kernel
theorem dX7_count_1 : decode cX7_count 1 = .ok (.tableswitch 151 0 10 #[59, 67, 75, 83, 92, 101, 110, 119, 127, 135, 143], 59) := by decide +kernel
theorem dX7_count_60 : decode cX7_count 60 = .ok (.aload_n 0, 1) := by decide +kernel
theorem dX7_count_61 : decode cX7_count 61 = .ok (.getfield 19, 3) := by decide +kernel
theorem dX7_count_64 : decode cX7_count 64 = .ok (.invokevirtual 92, 3) := by decide +kernel
theorem dX7_count_67 : decode cX7_count 67 = .ok (.ireturn, 1) := by decide +kernel
theorem dX7_count_68 : decode cX7_count 68 = .ok (.aload_n 0, 1) := by decide +kernel
theorem dX7_count_69 : decode cX7_count 69 = .ok (.getfield 19, 3) := by decide +kernel
theorem dX7_count_72 : decode cX7_count 72 = .ok (.invokevirtual 181, 3) := by decide +kernel
theorem dX7_count_75 : decode cX7_count 75 = .ok (.ireturn, 1) := by decide +kernel
theorem dX7_count_76 : decode cX7_count 76 = .ok (.aload_n 0, 1) := by decide +kernel
theorem dX7_count_77 : decode cX7_count 77 = .ok (.getfield 19, 3) := by decide +kernel
theorem dX7_count_80 : decode cX7_count 80 = .ok (.invokevirtual 134, 3) := by decide +kernel
theorem dX7_count_83 : decode cX7_count 83 = .ok (.ireturn, 1) := by decide +kernel
theorem dX7_count_84 : decode cX7_count 84 = .ok (.aload_n 0, 1) := by decide +kernel
theorem dX7_count_85 : decode cX7_count 85 = .ok (.getfield 19, 3) := by decide +kernel
theorem dX7_count_88 : decode cX7_count 88 = .ok (.iconst 0, 1) := by decide +kernel
theorem dX7_count_89 : decode cX7_count 89 = .ok (.invokevirtual 145, 3) := by decide +kernel
theorem dX7_count_92 : decode cX7_count 92 = .ok (.ireturn, 1) := by decide +kernel
theorem dX7_count_93 : decode cX7_count 93 = .ok (.aload_n 0, 1) := by decide +kernel
theorem dX7_count_94 : decode cX7_count 94 = .ok (.getfield 19, 3) := by decide +kernel
theorem dX7_count_97 : decode cX7_count 97 = .ok (.iconst 1, 1) := by decide +kernel
theorem dX7_count_98 : decode cX7_count 98 = .ok (.invokevirtual 145, 3) := by decide +kernel
theorem dX7_count_101 : decode cX7_count 101 = .ok (.ireturn, 1) := by decide +kernel
theorem dX7_count_102 : decode cX7_count 102 = .ok (.aload_n 0, 1) := by decide +kernel
theorem dX7_count_103 : decode cX7_count 103 = .ok (.getfield 19, 3) := by decide +kernel
theorem dX7_count_106 : decode cX7_count 106 = .ok (.iconst 2, 1) := by decide +kernel
theorem dX7_count_107 : decode cX7_count 107 = .ok (.invokevirtual 145, 3) := by decide +kernel
theorem dX7_count_110 : decode cX7_count 110 = .ok (.ireturn, 1) := by decide +kernel
theorem dX7_count_111 : decode cX7_count 111 = .ok (.aload_n 0, 1) := by decide +kernel
theorem dX7_count_112 : decode cX7_count 112 = .ok (.getfield 19, 3) := by decide +kernel
theorem dX7_count_115 : decode cX7_count 115 = .ok (.iconst 3, 1) := by decide +kernel
theorem dX7_count_116 : decode cX7_count 116 = .ok (.invokevirtual 145, 3) := by decide +kernel
theorem dX7_count_119 : decode cX7_count 119 = .ok (.ireturn, 1) := by decide +kernel
theorem dX7_count_120 : decode cX7_count 120 = .ok (.aload_n 0, 1) := by decide +kernel
theorem dX7_count_121 : decode cX7_count 121 = .ok (.getfield 19, 3) := by decide +kernel
theorem dX7_count_124 : decode cX7_count 124 = .ok (.invokevirtual 283, 3) := by decide +kernel
theorem dX7_count_127 : decode cX7_count 127 = .ok (.ireturn, 1) := by decide +kernel
theorem dX7_count_128 : decode cX7_count 128 = .ok (.aload_n 0, 1) := by decide +kernel
theorem dX7_count_129 : decode cX7_count 129 = .ok (.getfield 19, 3) := by decide +kernel
theorem dX7_count_132 : decode cX7_count 132 = .ok (.invokevirtual 286, 3) := by decide +kernel
theorem dX7_count_135 : decode cX7_count 135 = .ok (.ireturn, 1) := by decide +kernel
theorem dX7_count_136 : decode cX7_count 136 = .ok (.aload_n 0, 1) := by decide +kernel
theorem dX7_count_137 : decode cX7_count 137 = .ok (.getfield 51, 3) := by decide +kernel
theorem dX7_count_140 : decode cX7_count 140 = .ok (.invokevirtual 159, 3) := by decide +kernel
theorem dX7_count_143 : decode cX7_count 143 = .ok (.ireturn, 1) := by decide +kernel
theorem dX7_count_144 : decode cX7_count 144 = .ok (.aload_n 0, 1) := by decide +kernel
theorem dX7_count_145 : decode cX7_count 145 = .ok (.getfield 12, 3) := by decide +kernel
theorem dX7_count_148 : decode cX7_count 148 = .ok (.invokevirtual 84, 3) := by decide +kernel
theorem dX7_count_151 : decode cX7_count 151 = .ok (.ireturn, 1) := by decide +kernel
theorem dX7_count_152 : decode cX7_count 152 = .ok (.iconst (-1), 1) := by decide +kernel
theorem dX7_count_153 : decode cX7_count 153 = .ok (.ireturn, 1) := by decide +kernel
theorem dJ9_floorDiv_f86c9_0 : decode cJ9_floorDiv_f86c9 0 = .ok (.lload_n 0, 1) := by decide +kernel
theorem dJ9_floorDiv_f86c9_1 : decode cJ9_floorDiv_f86c9 1 = .ok (.lload_n 2, 1) := by decide +kernel
theorem dJ9_floorDiv_f86c9_2 : decode cJ9_floorDiv_f86c9 2 = .ok (.ldiv, 1) := by decide +kernel
theorem dJ9_floorDiv_f86c9_3 : decode cJ9_floorDiv_f86c9 3 = .ok (.lstore 4, 2) := by decide +kernel
theorem dJ9_floorDiv_f86c9_5 : decode cJ9_floorDiv_f86c9 5 = .ok (.lload_n 0, 1) := by decide +kernel
theorem dJ9_floorDiv_f86c9_6 : decode cJ9_floorDiv_f86c9 6 = .ok (.lload_n 2, 1) := by decide +kernel
theorem dJ9_floorDiv_f86c9_7 : decode cJ9_floorDiv_f86c9 7 = .ok (.lxor, 1) := by decide +kernel
theorem dJ9_floorDiv_f86c9_8 : decode cJ9_floorDiv_f86c9 8 = .ok (.lconst 0, 1) := by decide +kernel
theorem dJ9_floorDiv_f86c9_9 : decode cJ9_floorDiv_f86c9 9 = .ok (.lcmp, 1) := by decide +kernel
theorem dJ9_floorDiv_f86c9_10 : decode cJ9_floorDiv_f86c9 10 = .ok (.ifCond .ge 17, 3) := by decide +kernel
theorem dJ9_floorDiv_f86c9_13 : decode cJ9_floorDiv_f86c9 13 = .ok (.lload 4, 2) := by decide +kernel
theorem dJ9_floorDiv_f86c9_15 : decode cJ9_floorDiv_f86c9 15 = .ok (.lload_n 2, 1) := by decide +kernel
theorem dJ9_floorDiv_f86c9_16 : decode cJ9_floorDiv_f86c9 16 = .ok (.lmul, 1) := by decide +kernel
theorem dJ9_floorDiv_f86c9_17 : decode cJ9_floorDiv_f86c9 17 = .ok (.lload_n 0, 1) := by decide +kernel
theorem dJ9_floorDiv_f86c9_18 : decode cJ9_floorDiv_f86c9 18 = .ok (.lcmp, 1) := by decide +kernel
theorem dJ9_floorDiv_f86c9_19 : decode cJ9_floorDiv_f86c9 19 = .ok (.ifCond .eq 8, 3) := by decide +kernel
theorem dJ9_floorDiv_f86c9_22 : decode cJ9_floorDiv_f86c9 22 = .ok (.lload 4, 2) := by decide +kernel
theorem dJ9_floorDiv_f86c9_24 : decode cJ9_floorDiv_f86c9 24 = .ok (.lconst 1, 1) := by decide +kernel
theorem dJ9_floorDiv_f86c9_25 : decode cJ9_floorDiv_f86c9 25 = .ok (.lsub, 1) := by decide +kernel
theorem dJ9_floorDiv_f86c9_26 : decode cJ9_floorDiv_f86c9 26 = .ok (.lreturn, 1) := by decide +kernel
theorem dJ9_floorDiv_f86c9_27 : decode cJ9_floorDiv_f86c9 27 = .ok (.lload 4, 2) := by decide +kernel
theorem dJ9_floorDiv_f86c9_29 : decode cJ9_floorDiv_f86c9 29 = .ok (.lreturn, 1) := by decide +kernel
theorem dJ9_max_7cf53_0 : decode cJ9_max_7cf53 0 = .ok (.iload_n 0, 1) := by decide +kernel
theorem dJ9_max_7cf53_1 : decode cJ9_max_7cf53 1 = .ok (.iload_n 1, 1) := by decide +kernel
theorem dJ9_max_7cf53_2 : decode cJ9_max_7cf53 2 = .ok (.if_icmp .lt 7, 3) := by decide +kernel
theorem dJ9_max_7cf53_5 : decode cJ9_max_7cf53 5 = .ok (.iload_n 0, 1) := by decide +kernel
theorem dJ9_max_7cf53_6 : decode cJ9_max_7cf53 6 = .ok (.goto 4, 3) := by decide +kernel
theorem dJ9_max_7cf53_9 : decode cJ9_max_7cf53 9 = .ok (.iload_n 1, 1) := by decide +kernel
theorem dJ9_max_7cf53_10 : decode cJ9_max_7cf53 10 = .ok (.ireturn, 1) := by decide +kernel
theorem dJ9_min_7cf53_0 : decode cJ9_min_7cf53 0 = .ok (.iload_n 0, 1) := by decide +kernel
theorem dJ9_min_7cf53_1 : decode cJ9_min_7cf53 1 = .ok (.iload_n 1, 1) := by decide +kernel
theorem dJ9_min_7cf53_2 : decode cJ9_min_7cf53 2 = .ok (.if_icmp .gt 7, 3) := by decide +kernel
theorem dJ9_min_7cf53_5 : decode cJ9_min_7cf53 5 = .ok (.iload_n 0, 1) := by decide +kernel
theorem dJ9_min_7cf53_6 : decode cJ9_min_7cf53 6 = .ok (.goto 4, 3) := by decide +kernel
theorem dJ9_min_7cf53_9 : decode cJ9_min_7cf53 9 = .ok (.iload_n 1, 1) := by decide +kernel
theorem dJ9_min_7cf53_10 : decode cJ9_min_7cf53 10 = .ok (.ireturn, 1) := by decide +kernel
theorem dJ9_min_f86c9_0 : decode cJ9_min_f86c9 0 = .ok (.lload_n 0, 1) := by decide +kernel
theorem dJ9_min_f86c9_1 : decode cJ9_min_f86c9 1 = .ok (.lload_n 2, 1) := by decide +kernel
theorem dJ9_min_f86c9_2 : decode cJ9_min_f86c9 2 = .ok (.lcmp, 1) := by decide +kernel
theorem dJ9_min_f86c9_3 : decode cJ9_min_f86c9 3 = .ok (.ifCond .gt 7, 3) := by decide +kernel
theorem dJ9_min_f86c9_6 : decode cJ9_min_f86c9 6 = .ok (.lload_n 0, 1) := by decide +kernel
theorem dJ9_min_f86c9_7 : decode cJ9_min_f86c9 7 = .ok (.goto 4, 3) := by decide +kernel
theorem dJ9_min_f86c9_10 : decode cJ9_min_f86c9 10 = .ok (.lload_n 2, 1) := by decide +kernel
theorem dJ9_min_f86c9_11 : decode cJ9_min_f86c9 11 = .ok (.lreturn, 1) := by decide +kernel
theorem dJ0_length_8abf5_0 : decode cJ0_length_8abf5 0 = .ok (.aload_n 0, 1) := by decide +kernel
theorem dJ0_length_8abf5_1 : decode cJ0_length_8abf5 1 = .ok (.getfield 9, 3) := by decide +kernel
theorem dJ0_length_8abf5_4 : decode cJ0_length_8abf5 4 = .ok (.arraylength, 1) := by decide +kernel
theorem dJ0_length_8abf5_5 : decode cJ0_length_8abf5 5 = .ok (.aload_n 0, 1) := by decide +kernel
theorem dJ0_length_8abf5_6 : decode cJ0_length_8abf5 6 = .ok (.invokevirtual 335, 3) := by decide +kernel
theorem dJ0_length_8abf5_9 : decode cJ0_length_8abf5 9 = .ok (.ishr, 1) := by decide +kernel
theorem dJ0_length_8abf5_10 : decode cJ0_length_8abf5 10 = .ok (.ireturn, 1) := by decide +kernel
theorem dJ0_charAt_5068e_0 : decode cJ0_charAt_5068e 0 = .ok (.aload_n 0, 1) := by decide +kernel
theorem dJ0_charAt_5068e_1 : decode cJ0_charAt_5068e 1 = .ok (.invokevirtual 492, 3) := by decide +kernel
theorem dJ0_charAt_5068e_4 : decode cJ0_charAt_5068e 4 = .ok (.ifCond .eq 12, 3) := by decide +kernel
theorem dJ0_charAt_5068e_7 : decode cJ0_charAt_5068e 7 = .ok (.aload_n 0, 1) := by decide +kernel
theorem dJ0_charAt_5068e_8 : decode cJ0_charAt_5068e 8 = .ok (.getfield 9, 3) := by decide +kernel
theorem dJ0_charAt_5068e_11 : decode cJ0_charAt_5068e 11 = .ok (.iload_n 1, 1) := by decide +kernel
theorem dJ0_charAt_5068e_12 : decode cJ0_charAt_5068e 12 = .ok (.invokestatic 495, 3) := by decide +kernel
theorem dJ0_charAt_5068e_15 : decode cJ0_charAt_5068e 15 = .ok (.ireturn, 1) := by decide +kernel
theorem dJ0_charAt_5068e_16 : decode cJ0_charAt_5068e 16 = .ok (.aload_n 0, 1) := by decide +kernel
theorem dJ0_charAt_5068e_17 : decode cJ0_charAt_5068e 17 = .ok (.getfield 9, 3) := by decide +kernel
theorem dJ0_charAt_5068e_20 : decode cJ0_charAt_5068e 20 = .ok (.iload_n 1, 1) := by decide +kernel
theorem dJ0_charAt_5068e_21 : decode cJ0_charAt_5068e 21 = .ok (.invokestatic 498, 3) := by decide +kernel
theorem dJ0_charAt_5068e_24 : decode cJ0_charAt_5068e 24 = .ok (.ireturn, 1) := by decide +kernel
theorem dJ0_coder_7d493_0 : decode cJ0_coder_7d493 0 = .ok (.getstatic 38, 3) := by decide +kernel
theorem dJ0_coder_7d493_3 : decode cJ0_coder_7d493 3 = .ok (.ifCond .eq 10, 3) := by decide +kernel
theorem dJ0_coder_7d493_6 : decode cJ0_coder_7d493 6 = .ok (.aload_n 0, 1) := by decide +kernel
theorem dJ0_coder_7d493_7 : decode cJ0_coder_7d493 7 = .ok (.getfield 15, 3) := by decide +kernel
theorem dJ0_coder_7d493_10 : decode cJ0_coder_7d493 10 = .ok (.goto 4, 3) := by decide +kernel
theorem dJ0_coder_7d493_13 : decode cJ0_coder_7d493 13 = .ok (.iconst 1, 1) := by decide +kernel
theorem dJ0_coder_7d493_14 : decode cJ0_coder_7d493 14 = .ok (.ireturn, 1) := by decide +kernel
theorem dJ0_isLatin1_aae02_0 : decode cJ0_isLatin1_aae02 0 = .ok (.getstatic 38, 3) := by decide +kernel
theorem dJ0_isLatin1_aae02_3 : decode cJ0_isLatin1_aae02 3 = .ok (.ifCond .eq 14, 3) := by decide +kernel
theorem dJ0_isLatin1_aae02_6 : decode cJ0_isLatin1_aae02 6 = .ok (.aload_n 0, 1) := by decide +kernel
theorem dJ0_isLatin1_aae02_7 : decode cJ0_isLatin1_aae02 7 = .ok (.getfield 15, 3) := by decide +kernel
theorem dJ0_isLatin1_aae02_10 : decode cJ0_isLatin1_aae02 10 = .ok (.ifCond .ne 7, 3) := by decide +kernel
theorem dJ0_isLatin1_aae02_13 : decode cJ0_isLatin1_aae02 13 = .ok (.iconst 1, 1) := by decide +kernel
theorem dJ0_isLatin1_aae02_14 : decode cJ0_isLatin1_aae02 14 = .ok (.goto 4, 3) := by decide +kernel
theorem dJ0_isLatin1_aae02_17 : decode cJ0_isLatin1_aae02 17 = .ok (.iconst 0, 1) := by decide +kernel
theorem dJ0_isLatin1_aae02_18 : decode cJ0_isLatin1_aae02 18 = .ok (.ireturn, 1) := by decide +kernel
theorem dJ0_checkIndex_df160_0 : decode cJ0_checkIndex_df160 0 = .ok (.iload_n 0, 1) := by decide +kernel
theorem dJ0_checkIndex_df160_1 : decode cJ0_checkIndex_df160 1 = .ok (.iload_n 1, 1) := by decide +kernel
theorem dJ0_checkIndex_df160_2 : decode cJ0_checkIndex_df160 2 = .ok (.getstatic 1053, 3) := by decide +kernel
theorem dJ0_checkIndex_df160_5 : decode cJ0_checkIndex_df160 5 = .ok (.invokestatic 1059, 3) := by decide +kernel
theorem dJ0_checkIndex_df160_8 : decode cJ0_checkIndex_df160 8 = .ok (.pop, 1) := by decide +kernel
theorem dJ0_checkIndex_df160_9 : decode cJ0_checkIndex_df160 9 = .ok (.return_, 1) := by decide +kernel
theorem dJ1_charAt_3b067_0 : decode cJ1_charAt_3b067 0 = .ok (.iload_n 1, 1) := by decide +kernel
theorem dJ1_charAt_3b067_1 : decode cJ1_charAt_3b067 1 = .ok (.aload_n 0, 1) := by decide +kernel
theorem dJ1_charAt_3b067_2 : decode cJ1_charAt_3b067 2 = .ok (.arraylength, 1) := by decide +kernel
theorem dJ1_charAt_3b067_3 : decode cJ1_charAt_3b067 3 = .ok (.invokestatic 9, 3) := by decide +kernel
theorem dJ1_charAt_3b067_6 : decode cJ1_charAt_3b067 6 = .ok (.aload_n 0, 1) := by decide +kernel
theorem dJ1_charAt_3b067_7 : decode cJ1_charAt_3b067 7 = .ok (.iload_n 1, 1) := by decide +kernel
theorem dJ1_charAt_3b067_8 : decode cJ1_charAt_3b067 8 = .ok (.baload, 1) := by decide +kernel
theorem dJ1_charAt_3b067_9 : decode cJ1_charAt_3b067 9 = .ok (.sipush 255, 3) := by decide +kernel
theorem dJ1_charAt_3b067_12 : decode cJ1_charAt_3b067 12 = .ok (.iand, 1) := by decide +kernel
theorem dJ1_charAt_3b067_13 : decode cJ1_charAt_3b067 13 = .ok (.i2c, 1) := by decide +kernel
theorem dJ1_charAt_3b067_14 : decode cJ1_charAt_3b067 14 = .ok (.ireturn, 1) := by decide +kernel
theorem dJ2_getChar_3b067_0 : decode cJ2_getChar_3b067 0 = .ok (.getstatic 44, 3) := by decide +kernel
theorem dJ2_getChar_3b067_3 : decode cJ2_getChar_3b067 3 = .ok (.ifCond .ne 25, 3) := by decide +kernel
theorem dJ2_getChar_3b067_6 : decode cJ2_getChar_3b067 6 = .ok (.iload_n 1, 1) := by decide +kernel
theorem dJ2_getChar_3b067_7 : decode cJ2_getChar_3b067 7 = .ok (.ifCond .lt 11, 3) := by decide +kernel
theorem dJ2_getChar_3b067_10 : decode cJ2_getChar_3b067 10 = .ok (.iload_n 1, 1) := by decide +kernel
theorem dJ2_getChar_3b067_11 : decode cJ2_getChar_3b067 11 = .ok (.aload_n 0, 1) := by decide +kernel
theorem dJ2_getChar_3b067_12 : decode cJ2_getChar_3b067 12 = .ok (.invokestatic 48, 3) := by decide +kernel
theorem dJ2_getChar_3b067_15 : decode cJ2_getChar_3b067 15 = .ok (.if_icmp .lt 13, 3) := by decide +kernel
theorem dJ2_getChar_3b067_18 : decode cJ2_getChar_3b067 18 = .ok (.new 52, 3) := by decide +kernel
theorem dJ2_getChar_3b067_21 : decode cJ2_getChar_3b067 21 = .ok (.dup, 1) := by decide +kernel
theorem dJ2_getChar_3b067_22 : decode cJ2_getChar_3b067 22 = .ok (.ldc 54, 2) := by decide +kernel
theorem dJ2_getChar_3b067_24 : decode cJ2_getChar_3b067 24 = .ok (.invokespecial 56, 3) := by decide +kernel
theorem dJ2_getChar_3b067_27 : decode cJ2_getChar_3b067 27 = .ok (.athrow, 1) := by decide +kernel
theorem dJ2_getChar_3b067_28 : decode cJ2_getChar_3b067 28 = .ok (.iload_n 1, 1) := by decide +kernel
theorem dJ2_getChar_3b067_29 : decode cJ2_getChar_3b067 29 = .ok (.iconst 1, 1) := by decide +kernel
theorem dJ2_getChar_3b067_30 : decode cJ2_getChar_3b067 30 = .ok (.ishl, 1) := by decide +kernel
theorem dJ2_getChar_3b067_31 : decode cJ2_getChar_3b067 31 = .ok (.istore_n 1, 1) := by decide +kernel
theorem dJ2_getChar_3b067_32 : decode cJ2_getChar_3b067 32 = .ok (.aload_n 0, 1) := by decide +kernel
theorem dJ2_getChar_3b067_33 : decode cJ2_getChar_3b067 33 = .ok (.iload_n 1, 1) := by decide +kernel
theorem dJ2_getChar_3b067_34 : decode cJ2_getChar_3b067 34 = .ok (.iinc 1 1, 3) := by decide +kernel
theorem dJ2_getChar_3b067_37 : decode cJ2_getChar_3b067 37 = .ok (.baload, 1) := by decide +kernel
theorem dJ2_getChar_3b067_38 : decode cJ2_getChar_3b067 38 = .ok (.sipush 255, 3) := by decide +kernel
theorem dJ2_getChar_3b067_41 : decode cJ2_getChar_3b067 41 = .ok (.iand, 1) := by decide +kernel
theorem dJ2_getChar_3b067_42 : decode cJ2_getChar_3b067 42 = .ok (.getstatic 59, 3) := by decide +kernel
theorem dJ2_getChar_3b067_45 : decode cJ2_getChar_3b067 45 = .ok (.ishl, 1) := by decide +kernel
theorem dJ2_getChar_3b067_46 : decode cJ2_getChar_3b067 46 = .ok (.aload_n 0, 1) := by decide +kernel
theorem dJ2_getChar_3b067_47 : decode cJ2_getChar_3b067 47 = .ok (.iload_n 1, 1) := by decide +kernel
theorem dJ2_getChar_3b067_48 : decode cJ2_getChar_3b067 48 = .ok (.baload, 1) := by decide +kernel
theorem dJ2_getChar_3b067_49 : decode cJ2_getChar_3b067 49 = .ok (.sipush 255, 3) := by decide +kernel
theorem dJ2_getChar_3b067_52 : decode cJ2_getChar_3b067 52 = .ok (.iand, 1) := by decide +kernel
theorem dJ2_getChar_3b067_53 : decode cJ2_getChar_3b067 53 = .ok (.getstatic 63, 3) := by decide +kernel
theorem dJ2_getChar_3b067_56 : decode cJ2_getChar_3b067 56 = .ok (.ishl, 1) := by decide +kernel
theorem dJ2_getChar_3b067_57 : decode cJ2_getChar_3b067 57 = .ok (.ior, 1) := by decide +kernel
theorem dJ2_getChar_3b067_58 : decode cJ2_getChar_3b067 58 = .ok (.i2c, 1) := by decide +kernel
theorem dJ2_getChar_3b067_59 : decode cJ2_getChar_3b067 59 = .ok (.ireturn, 1) := by decide +kernel
theorem dJ2_length_9d52b_0 : decode cJ2_length_9d52b 0 = .ok (.aload_n 0, 1) := by decide +kernel
theorem dJ2_length_9d52b_1 : decode cJ2_length_9d52b 1 = .ok (.arraylength, 1) := by decide +kernel
theorem dJ2_length_9d52b_2 : decode cJ2_length_9d52b 2 = .ok (.iconst 1, 1) := by decide +kernel
theorem dJ2_length_9d52b_3 : decode cJ2_length_9d52b 3 = .ok (.ishr, 1) := by decide +kernel
theorem dJ2_length_9d52b_4 : decode cJ2_length_9d52b 4 = .ok (.ireturn, 1) := by decide +kernel
theorem dJ2_charAt_3b067_0 : decode cJ2_charAt_3b067 0 = .ok (.iload_n 1, 1) := by decide +kernel
theorem dJ2_charAt_3b067_1 : decode cJ2_charAt_3b067 1 = .ok (.aload_n 0, 1) := by decide +kernel
theorem dJ2_charAt_3b067_2 : decode cJ2_charAt_3b067 2 = .ok (.invokestatic 67, 3) := by decide +kernel
theorem dJ2_charAt_3b067_5 : decode cJ2_charAt_3b067 5 = .ok (.aload_n 0, 1) := by decide +kernel
theorem dJ2_charAt_3b067_6 : decode cJ2_charAt_3b067 6 = .ok (.iload_n 1, 1) := by decide +kernel
theorem dJ2_charAt_3b067_7 : decode cJ2_charAt_3b067 7 = .ok (.invokestatic 71, 3) := by decide +kernel
theorem dJ2_charAt_3b067_10 : decode cJ2_charAt_3b067 10 = .ok (.ireturn, 1) := by decide +kernel
theorem dJ2_checkIndex_2214a_0 : decode cJ2_checkIndex_2214a 0 = .ok (.iload_n 0, 1) := by decide +kernel
theorem dJ2_checkIndex_2214a_1 : decode cJ2_checkIndex_2214a 1 = .ok (.aload_n 1, 1) := by decide +kernel
theorem dJ2_checkIndex_2214a_2 : decode cJ2_checkIndex_2214a 2 = .ok (.invokestatic 48, 3) := by decide +kernel
theorem dJ2_checkIndex_2214a_5 : decode cJ2_checkIndex_2214a 5 = .ok (.invokestatic 414, 3) := by decide +kernel
theorem dJ2_checkIndex_2214a_8 : decode cJ2_checkIndex_2214a 8 = .ok (.return_, 1) := by decide +kernel
theorem dJ3_checkIndex_8e157_0 : decode cJ3_checkIndex_8e157 0 = .ok (.iload_n 0, 1) := by decide +kernel
theorem dJ3_checkIndex_8e157_1 : decode cJ3_checkIndex_8e157 1 = .ok (.ifCond .lt 8, 3) := by decide +kernel
theorem dJ3_checkIndex_8e157_4 : decode cJ3_checkIndex_8e157 4 = .ok (.iload_n 0, 1) := by decide +kernel
theorem dJ3_checkIndex_8e157_5 : decode cJ3_checkIndex_8e157 5 = .ok (.iload_n 1, 1) := by decide +kernel
theorem dJ3_checkIndex_8e157_6 : decode cJ3_checkIndex_8e157 6 = .ok (.if_icmp .lt 10, 3) := by decide +kernel
theorem dJ3_checkIndex_8e157_9 : decode cJ3_checkIndex_8e157 9 = .ok (.aload_n 2, 1) := by decide +kernel
theorem dJ3_checkIndex_8e157_10 : decode cJ3_checkIndex_8e157 10 = .ok (.iload_n 0, 1) := by decide +kernel
theorem dJ3_checkIndex_8e157_11 : decode cJ3_checkIndex_8e157 11 = .ok (.iload_n 1, 1) := by decide +kernel
theorem dJ3_checkIndex_8e157_12 : decode cJ3_checkIndex_8e157 12 = .ok (.invokestatic 95, 3) := by decide +kernel
theorem dJ3_checkIndex_8e157_15 : decode cJ3_checkIndex_8e157 15 = .ok (.athrow, 1) := by decide +kernel
theorem dJ3_checkIndex_8e157_16 : decode cJ3_checkIndex_8e157 16 = .ok (.iload_n 0, 1) := by decide +kernel
theorem dJ3_checkIndex_8e157_17 : decode cJ3_checkIndex_8e157 17 = .ok (.ireturn, 1) := by decide +kernel
end
section
theorem dX8_init_0 : decode cX8_init 0 = .ok (.aload_n 0, 1) := by decide +kernel
theorem dX8_init_1 : decode cX8_init 1 = .ok (.invokespecial 1, 3) := by decide +kernel
theorem dX8_init_4 : decode cX8_init 4 = .ok (.aload_n 0, 1) := by decide +kernel
theorem dX8_init_5 : decode cX8_init 5 = .ok (.sipush 200, 3) := by decide +kernel
theorem dX8_init_8 : decode cX8_init 8 = .ok (.newarray .int, 2) := by decide +kernel
theorem dX8_init_10 : decode cX8_init 10 = .ok (.putfield 7, 3) := by decide +kernel
theorem dX8_init_13 : decode cX8_init 13 = .ok (.aload_n 0, 1) := by decide +kernel
theorem dX8_init_14 : decode cX8_init 14 = .ok (.bipush 6, 2) := by decide +kernel
theorem dX8_init_16 : decode cX8_init 16 = .ok (.newarray .int, 2) := by decide +kernel
theorem dX8_init_18 : decode cX8_init 18 = .ok (.putfield 13, 3) := by decide +kernel
theorem dX8_init_21 : decode cX8_init 21 = .ok (.aload_n 0, 1) := by decide +kernel
theorem dX8_init_22 : decode cX8_init 22 = .ok (.bipush 6, 2) := by decide +kernel
theorem dX8_init_24 : decode cX8_init 24 = .ok (.newarray .int, 2) := by decide +kernel
theorem dX8_init_26 : decode cX8_init 26 = .ok (.putfield 16, 3) := by decide +kernel
theorem dX8_init_29 : decode cX8_init 29 = .ok (.aload_n 0, 1) := by decide +kernel
theorem dX8_init_30 : decode cX8_init 30 = .ok (.bipush 102, 2) := by decide +kernel
theorem dX8_init_32 : decode cX8_init 32 = .ok (.newarray .int, 2) := by decide +kernel
theorem dX8_init_34 : decode cX8_init 34 = .ok (.putfield 19, 3) := by decide +kernel
theorem dX8_init_37 : decode cX8_init 37 = .ok (.aload_n 0, 1) := by decide +kernel
theorem dX8_init_38 : decode cX8_init 38 = .ok (.bipush 6, 2) := by decide +kernel
theorem dX8_init_40 : decode cX8_init 40 = .ok (.newarray .int, 2) := by decide +kernel
theorem dX8_init_42 : decode cX8_init 42 = .ok (.putfield 22, 3) := by decide +kernel
theorem dX8_init_45 : decode cX8_init 45 = .ok (.aload_n 0, 1) := by decide +kernel
theorem dX8_init_46 : decode cX8_init 46 = .ok (.bipush 6, 2) := by decide +kernel
theorem dX8_init_48 : decode cX8_init 48 = .ok (.newarray .int, 2) := by decide +kernel
theorem dX8_init_50 : decode cX8_init 50 = .ok (.putfield 25, 3) := by decide +kernel
theorem dX8_init_53 : decode cX8_init 53 = .ok (.aload_n 0, 1) := by decide +kernel
theorem dX8_init_54 : decode cX8_init 54 = .ok (.bipush 102, 2) := by decide +kernel
theorem dX8_init_56 : decode cX8_init 56 = .ok (.newarray .int, 2) := by decide +kernel
theorem dX8_init_58 : decode cX8_init 58 = .ok (.putfield 28, 3) := by decide +kernel
theorem dX8_init_61 : decode cX8_init 61 = .ok (.aload_n 0, 1) := by decide +kernel
theorem dX8_init_62 : decode cX8_init 62 = .ok (.sipush 816, 3) := by decide +kernel
theorem dX8_init_65 : decode cX8_init 65 = .ok (.newarray .int, 2) := by decide +kernel
theorem dX8_init_67 : decode cX8_init 67 = .ok (.putfield 31, 3) := by decide +kernel
theorem dX8_init_70 : decode cX8_init 70 = .ok (.aload_n 0, 1) := by decide +kernel
theorem dX8_init_71 : decode cX8_init 71 = .ok (.bipush 30, 2) := by decide +kernel
theorem dX8_init_73 : decode cX8_init 73 = .ok (.newarray .int, 2) := by decide +kernel
theorem dX8_init_75 : decode cX8_init 75 = .ok (.putfield 34, 3) := by decide +kernel
theorem dX8_init_78 : decode cX8_init 78 = .ok (.aload_n 0, 1) := by decide +kernel
theorem dX8_init_79 : decode cX8_init 79 = .ok (.bipush 16, 2) := by decide +kernel
theorem dX8_init_81 : decode cX8_init 81 = .ok (.newarray .long, 2) := by decide +kernel
theorem dX8_init_83 : decode cX8_init 83 = .ok (.putfield 37, 3) := by decide +kernel
theorem dX8_init_86 : decode cX8_init 86 = .ok (.aload_n 0, 1) := by decide +kernel
theorem dX8_init_87 : decode cX8_init 87 = .ok (.bipush 16, 2) := by decide +kernel
theorem dX8_init_89 : decode cX8_init 89 = .ok (.newarray .int, 2) := by decide +kernel
theorem dX8_init_91 : decode cX8_init 91 = .ok (.putfield 41, 3) := by decide +kernel
theorem dX8_init_94 : decode cX8_init 94 = .ok (.aload_n 0, 1) := by decide +kernel
theorem dX8_init_95 : decode cX8_init 95 = .ok (.sipush 272, 3) := by decide +kernel
theorem dX8_init_98 : decode cX8_init 98 = .ok (.newarray .long, 2) := by decide +kernel
theorem dX8_init_100 : decode cX8_init 100 = .ok (.putfield 44, 3) := by decide +kernel
theorem dX8_init_103 : decode cX8_init 103 = .ok (.aload_n 0, 1) := by decide +kernel
theorem dX8_init_104 : decode cX8_init 104 = .ok (.bipush 16, 2) := by decide +kernel
theorem dX8_init_106 : decode cX8_init 106 = .ok (.newarray .int, 2) := by decide +kernel
theorem dX8_init_108 : decode cX8_init 108 = .ok (.putfield 47, 3) := by decide +kernel
theorem dX8_init_111 : decode cX8_init 111 = .ok (.aload_n 0, 1) := by decide +kernel
theorem dX8_init_112 : decode cX8_init 112 = .ok (.bipush 36, 2) := by decide +kernel
theorem dX8_init_114 : decode cX8_init 114 = .ok (.newarray .int, 2) := by decide +kernel
theorem dX8_init_116 : decode cX8_init 116 = .ok (.putfield 50, 3) := by decide +kernel
theorem dX8_init_119 : decode cX8_init 119 = .ok (.aload_n 0, 1) := by decide +kernel
theorem dX8_init_120 : decode cX8_init 120 = .ok (.bipush 36, 2) := by decide +kernel
theorem dX8_init_122 : decode cX8_init 122 = .ok (.newarray .int, 2) := by decide +kernel
theorem dX8_init_124 : decode cX8_init 124 = .ok (.putfield 53, 3) := by decide +kernel
theorem dX8_init_127 : decode cX8_init 127 = .ok (.aload_n 0, 1) := by decide +kernel
theorem dX8_init_128 : decode cX8_init 128 = .ok (.bipush 96, 2) := by decide +kernel
theorem dX8_init_130 : decode cX8_init 130 = .ok (.newarray .int, 2) := by decide +kernel
theorem dX8_init_132 : decode cX8_init 132 = .ok (.putfield 56, 3) := by decide +kernel
theorem dX8_init_135 : decode cX8_init 135 = .ok (.aload_n 0, 1) := by decide +kernel
theorem dX8_init_136 : decode cX8_init 136 = .ok (.bipush 96, 2) := by decide +kernel
theorem dX8_init_138 : decode cX8_init 138 = .ok (.newarray .int, 2) := by decide +kernel
theorem dX8_init_140 : decode cX8_init 140 = .ok (.putfield 59, 3) := by decide +kernel
theorem dX8_init_143 : decode cX8_init 143 = .ok (.aload_n 0, 1) := by decide +kernel
theorem dX8_init_144 : decode cX8_init 144 = .ok (.bipush 96, 2) := by decide +kernel
theorem dX8_init_146 : decode cX8_init 146 = .ok (.newarray .int, 2) := by decide +kernel
theorem dX8_init_148 : decode cX8_init 148 = .ok (.putfield 62, 3) := by decide +kernel
theorem dX8_init_151 : decode cX8_init 151 = .ok (.aload_n 0, 1) := by decide +kernel
theorem dX8_init_152 : decode cX8_init 152 = .ok (.bipush 96, 2) := by decide +kernel
theorem dX8_init_154 : decode cX8_init 154 = .ok (.newarray .int, 2) := by decide +kernel
theorem dX8_init_156 : decode cX8_init 156 = .ok (.putfield 65, 3) := by decide +kernel
theorem dX8_init_159 : decode cX8_init 159 = .ok (.aload_n 0, 1) := by decide +kernel
theorem dX8_init_160 : decode cX8_init 160 = .ok (.invokevirtual 68, 3) := by decide +kernel
theorem dX8_init_163 : decode cX8_init 163 = .ok (.aload_n 0, 1) := by decide +kernel
theorem dX8_init_164 : decode cX8_init 164 = .ok (.bipush 14, 2) := by decide +kernel
theorem dX8_init_166 : decode cX8_init 166 = .ok (.putfield 71, 3) := by decide +kernel
theorem dX8_init_169 : decode cX8_init 169 = .ok (.aload_n 0, 1) := by decide +kernel
theorem dX8_init_170 : decode cX8_init 170 = .ok (.iconst 0, 1) := by decide +kernel
theorem dX8_init_171 : decode cX8_init 171 = .ok (.iconst 0, 1) := by decide +kernel
theorem dX8_init_172 : decode cX8_init 172 = .ok (.invokevirtual 75, 3) := by decide +kernel
theorem dX8_init_175 : decode cX8_init 175 = .ok (.aload_n 0, 1) := by decide +kernel
theorem dX8_init_176 : decode cX8_init 176 = .ok (.iconst 0, 1) := by decide +kernel
theorem dX8_init_177 : decode cX8_init 177 = .ok (.iconst 5, 1) := by decide +kernel
theorem dX8_init_178 : decode cX8_init 178 = .ok (.bipush 6, 2) := by decide +kernel
theorem dX8_init_180 : decode cX8_init 180 = .ok (.bipush 7, 2) := by decide +kernel
theorem dX8_init_182 : decode cX8_init 182 = .ok (.iconst 5, 1) := by decide +kernel
theorem dX8_init_183 : decode cX8_init 183 = .ok (.bipush 6, 2) := by decide +kernel
theorem dX8_init_185 : decode cX8_init 185 = .ok (.invokevirtual 79, 3) := by decide +kernel
theorem dX8_init_188 : decode cX8_init 188 = .ok (.aload_n 0, 1) := by decide +kernel
theorem dX8_init_189 : decode cX8_init 189 = .ok (.iconst 5, 1) := by decide +kernel
theorem dX8_init_190 : decode cX8_init 190 = .ok (.bipush 7, 2) := by decide +kernel
theorem dX8_init_192 : decode cX8_init 192 = .ok (.bipush 12, 2) := by decide +kernel
theorem dX8_init_194 : decode cX8_init 194 = .ok (.bipush 11, 2) := by decide +kernel
theorem dX8_init_196 : decode cX8_init 196 = .ok (.bipush 12, 2) := by decide +kernel
theorem dX8_init_198 : decode cX8_init 198 = .ok (.bipush 13, 2) := by decide +kernel
theorem dX8_init_200 : decode cX8_init 200 = .ok (.invokevirtual 79, 3) := by decide +kernel
theorem dX8_init_203 : decode cX8_init 203 = .ok (.aload_n 0, 1) := by decide +kernel
theorem dX8_init_204 : decode cX8_init 204 = .ok (.bipush 10, 2) := by decide +kernel
theorem dX8_init_206 : decode cX8_init 206 = .ok (.bipush 11, 2) := by decide +kernel
theorem dX8_init_208 : decode cX8_init 208 = .ok (.bipush 12, 2) := by decide +kernel
theorem dX8_init_210 : decode cX8_init 210 = .ok (.bipush 13, 2) := by decide +kernel
theorem dX8_init_212 : decode cX8_init 212 = .ok (.bipush 12, 2) := by decide +kernel
theorem dX8_init_214 : decode cX8_init 214 = .ok (.iconst 0, 1) := by decide +kernel
theorem dX8_init_215 : decode cX8_init 215 = .ok (.invokevirtual 79, 3) := by decide +kernel
theorem dX8_init_218 : decode cX8_init 218 = .ok (.aload_n 0, 1) := by decide +kernel
theorem dX8_init_219 : decode cX8_init 219 = .ok (.iconst 0, 1) := by decide +kernel
theorem dX8_init_220 : decode cX8_init 220 = .ok (.iconst 2, 1) := by decide +kernel
theorem dX8_init_221 : decode cX8_init 221 = .ok (.invokevirtual 75, 3) := by decide +kernel
theorem dX8_init_224 : decode cX8_init 224 = .ok (.aload_n 0, 1) := by decide +kernel
theorem dX8_init_225 : decode cX8_init 225 = .ok (.iconst 0, 1) := by decide +kernel
theorem dX8_init_226 : decode cX8_init 226 = .ok (.bipush 6, 2) := by decide +kernel
theorem dX8_init_228 : decode cX8_init 228 = .ok (.bipush 7, 2) := by decide +kernel
theorem dX8_init_230 : decode cX8_init 230 = .ok (.bipush 8, 2) := by decide +kernel
theorem dX8_init_232 : decode cX8_init 232 = .ok (.bipush 6, 2) := by decide +kernel
theorem dX8_init_234 : decode cX8_init 234 = .ok (.bipush 7, 2) := by decide +kernel
theorem dX8_init_236 : decode cX8_init 236 = .ok (.invokevirtual 79, 3) := by decide +kernel
theorem dX8_init_239 : decode cX8_init 239 = .ok (.aload_n 0, 1) := by decide +kernel
theorem dX8_init_240 : decode cX8_init 240 = .ok (.iconst 5, 1) := by decide +kernel
theorem dX8_init_241 : decode cX8_init 241 = .ok (.bipush 8, 2) := by decide +kernel
theorem dX8_init_243 : decode cX8_init 243 = .ok (.bipush 7, 2) := by decide +kernel
theorem dX8_init_245 : decode cX8_init 245 = .ok (.bipush 6, 2) := by decide +kernel
theorem dX8_init_247 : decode cX8_init 247 = .ok (.bipush 7, 2) := by decide +kernel
theorem dX8_init_249 : decode cX8_init 249 = .ok (.bipush 11, 2) := by decide +kernel
theorem dX8_init_251 : decode cX8_init 251 = .ok (.invokevirtual 79, 3) := by decide +kernel
theorem dX8_init_254 : decode cX8_init 254 = .ok (.aload_n 0, 1) := by decide +kernel
theorem dX8_init_255 : decode cX8_init 255 = .ok (.bipush 10, 2) := by decide +kernel
theorem dX8_init_257 : decode cX8_init 257 = .ok (.bipush 9, 2) := by decide +kernel
theorem dX8_init_259 : decode cX8_init 259 = .ok (.bipush 10, 2) := by decide +kernel
theorem dX8_init_261 : decode cX8_init 261 = .ok (.bipush 11, 2) := by decide +kernel
theorem dX8_init_263 : decode cX8_init 263 = .ok (.bipush 10, 2) := by decide +kernel
theorem dX8_init_265 : decode cX8_init 265 = .ok (.iconst 0, 1) := by decide +kernel
theorem dX8_init_266 : decode cX8_init 266 = .ok (.invokevirtual 79, 3) := by decide +kernel
theorem dX8_init_269 : decode cX8_init 269 = .ok (.aload_n 0, 1) := by decide +kernel
theorem dX8_init_270 : decode cX8_init 270 = .ok (.iconst 3, 1) := by decide +kernel
theorem dX8_init_271 : decode cX8_init 271 = .ok (.iconst 0, 1) := by decide +kernel
theorem dX8_init_272 : decode cX8_init 272 = .ok (.invokevirtual 75, 3) := by decide +kernel
theorem dX8_init_275 : decode cX8_init 275 = .ok (.aload_n 0, 1) := by decide +kernel
theorem dX8_init_276 : decode cX8_init 276 = .ok (.iconst 0, 1) := by decide +kernel
theorem dX8_init_277 : decode cX8_init 277 = .ok (.iconst 4, 1) := by decide +kernel
theorem dX8_init_278 : decode cX8_init 278 = .ok (.iconst 5, 1) := by decide +kernel
theorem dX8_init_279 : decode cX8_init 279 = .ok (.bipush 6, 2) := by decide +kernel
theorem dX8_init_281 : decode cX8_init 281 = .ok (.ldc 83, 2) := by decide +kernel
theorem dX8_init_283 : decode cX8_init 283 = .ok (.iconst 5, 1) := by decide +kernel
theorem dX8_init_284 : decode cX8_init 284 = .ok (.invokevirtual 79, 3) := by decide +kernel
theorem dX8_init_287 : decode cX8_init 287 = .ok (.aload_n 0, 1) := by decide +kernel
theorem dX8_init_288 : decode cX8_init 288 = .ok (.iconst 5, 1) := by decide +kernel
theorem dX8_init_289 : decode cX8_init 289 = .ok (.bipush 6, 2) := by decide +kernel
theorem dX8_init_291 : decode cX8_init 291 = .ok (.iconst 5, 1) := by decide +kernel
theorem dX8_init_292 : decode cX8_init 292 = .ok (.iconst 4, 1) := by decide +kernel
theorem dX8_init_293 : decode cX8_init 293 = .ok (.iconst 5, 1) := by decide +kernel
theorem dX8_init_294 : decode cX8_init 294 = .ok (.bipush 6, 2) := by decide +kernel
theorem dX8_init_296 : decode cX8_init 296 = .ok (.invokevirtual 79, 3) := by decide +kernel
theorem dX8_init_299 : decode cX8_init 299 = .ok (.aload_n 0, 1) := by decide +kernel
theorem dX8_init_300 : decode cX8_init 300 = .ok (.bipush 10, 2) := by decide +kernel
theorem dX8_init_302 : decode cX8_init 302 = .ok (.ldc 83, 2) := by decide +kernel
theorem dX8_init_304 : decode cX8_init 304 = .ok (.iconst 5, 1) := by decide +kernel
theorem dX8_init_305 : decode cX8_init 305 = .ok (.bipush 6, 2) := by decide +kernel
theorem dX8_init_307 : decode cX8_init 307 = .ok (.iconst 5, 1) := by decide +kernel
theorem dX8_init_308 : decode cX8_init 308 = .ok (.iconst 0, 1) := by decide +kernel
theorem dX8_init_309 : decode cX8_init 309 = .ok (.invokevirtual 79, 3) := by decide +kernel
theorem dX8_init_312 : decode cX8_init 312 = .ok (.aload_n 0, 1) := by decide +kernel
theorem dX8_init_313 : decode cX8_init 313 = .ok (.iconst 3, 1) := by decide +kernel
theorem dX8_init_314 : decode cX8_init 314 = .ok (.iconst 3, 1) := by decide +kernel
theorem dX8_init_315 : decode cX8_init 315 = .ok (.invokevirtual 75, 3) := by decide +kernel
theorem dX8_init_318 : decode cX8_init 318 = .ok (.aload_n 0, 1) := by decide +kernel
theorem dX8_init_319 : decode cX8_init 319 = .ok (.iconst 0, 1) := by decide +kernel
theorem dX8_init_320 : decode cX8_init 320 = .ok (.bipush 7, 2) := by decide +kernel
theorem dX8_init_322 : decode cX8_init 322 = .ok (.bipush 8, 2) := by decide +kernel
theorem dX8_init_324 : decode cX8_init 324 = .ok (.bipush 9, 2) := by decide +kernel
theorem dX8_init_326 : decode cX8_init 326 = .ok (.bipush 7, 2) := by decide +kernel
theorem dX8_init_328 : decode cX8_init 328 = .ok (.bipush 8, 2) := by decide +kernel
theorem dX8_init_330 : decode cX8_init 330 = .ok (.invokevirtual 79, 3) := by decide +kernel
theorem dX8_init_333 : decode cX8_init 333 = .ok (.aload_n 0, 1) := by decide +kernel
theorem dX8_init_334 : decode cX8_init 334 = .ok (.iconst 5, 1) := by decide +kernel
theorem dX8_init_335 : decode cX8_init 335 = .ok (.bipush 9, 2) := by decide +kernel
theorem dX8_init_337 : decode cX8_init 337 = .ok (.bipush 8, 2) := by decide +kernel
theorem dX8_init_339 : decode cX8_init 339 = .ok (.bipush 7, 2) := by decide +kernel
theorem dX8_init_341 : decode cX8_init 341 = .ok (.bipush 8, 2) := by decide +kernel
theorem dX8_init_343 : decode cX8_init 343 = .ok (.bipush 9, 2) := by decide +kernel
theorem dX8_init_345 : decode cX8_init 345 = .ok (.invokevirtual 79, 3) := by decide +kernel
theorem dX8_init_348 : decode cX8_init 348 = .ok (.aload_n 0, 1) := by decide +kernel
theorem dX8_init_349 : decode cX8_init 349 = .ok (.bipush 10, 2) := by decide +kernel
theorem dX8_init_351 : decode cX8_init 351 = .ok (.bipush 7, 2) := by decide +kernel
theorem dX8_init_353 : decode cX8_init 353 = .ok (.bipush 8, 2) := by decide +kernel
theorem dX8_init_355 : decode cX8_init 355 = .ok (.bipush 9, 2) := by decide +kernel
theorem dX8_init_357 : decode cX8_init 357 = .ok (.bipush 8, 2) := by decide +kernel
theorem dX8_init_359 : decode cX8_init 359 = .ok (.iconst 0, 1) := by decide +kernel
theorem dX8_init_360 : decode cX8_init 360 = .ok (.invokevirtual 79, 3) := by decide +kernel
theorem dX8_init_363 : decode cX8_init 363 = .ok (.aload_n 0, 1) := by decide +kernel
theorem dX8_init_364 : decode cX8_init 364 = .ok (.bipush 28, 2) := by decide +kernel
theorem dX8_init_366 : decode cX8_init 366 = .ok (.bipush 28, 2) := by decide +kernel
theorem dX8_init_368 : decode cX8_init 368 = .ok (.invokevirtual 75, 3) := by decide +kernel
theorem dX8_init_371 : decode cX8_init 371 = .ok (.aload_n 0, 1) := by decide +kernel
theorem dX8_init_372 : decode cX8_init 372 = .ok (.iconst 0, 1) := by decide +kernel
theorem dX8_init_373 : decode cX8_init 373 = .ok (.iconst 2, 1) := by decide +kernel
theorem dX8_init_374 : decode cX8_init 374 = .ok (.iconst 2, 1) := by decide +kernel
theorem dX8_init_375 : decode cX8_init 375 = .ok (.iconst 2, 1) := by decide +kernel
theorem dX8_init_376 : decode cX8_init 376 = .ok (.iconst 3, 1) := by decide +kernel
theorem dX8_init_377 : decode cX8_init 377 = .ok (.iconst 3, 1) := by decide +kernel
theorem dX8_init_378 : decode cX8_init 378 = .ok (.invokevirtual 79, 3) := by decide +kernel
theorem dX8_init_381 : decode cX8_init 381 = .ok (.aload_n 0, 1) := by decide +kernel
theorem dX8_init_382 : decode cX8_init 382 = .ok (.iconst 5, 1) := by decide +kernel
theorem dX8_init_383 : decode cX8_init 383 = .ok (.iconst 3, 1) := by decide +kernel
theorem dX8_init_384 : decode cX8_init 384 = .ok (.iconst 2, 1) := by decide +kernel
theorem dX8_init_385 : decode cX8_init 385 = .ok (.iconst 2, 1) := by decide +kernel
theorem dX8_init_386 : decode cX8_init 386 = .ok (.iconst 2, 1) := by decide +kernel
theorem dX8_init_387 : decode cX8_init 387 = .ok (.iconst 3, 1) := by decide +kernel
theorem dX8_init_388 : decode cX8_init 388 = .ok (.invokevirtual 79, 3) := by decide +kernel
theorem dX8_init_391 : decode cX8_init 391 = .ok (.aload_n 0, 1) := by decide +kernel
theorem dX8_init_392 : decode cX8_init 392 = .ok (.bipush 10, 2) := by decide +kernel
theorem dX8_init_394 : decode cX8_init 394 = .ok (.iconst 3, 1) := by decide +kernel
theorem dX8_init_395 : decode cX8_init 395 = .ok (.iconst 3, 1) := by decide +kernel
theorem dX8_init_396 : decode cX8_init 396 = .ok (.iconst 2, 1) := by decide +kernel
theorem dX8_init_397 : decode cX8_init 397 = .ok (.iconst 2, 1) := by decide +kernel
theorem dX8_init_398 : decode cX8_init 398 = .ok (.iconst 0, 1) := by decide +kernel
theorem dX8_init_399 : decode cX8_init 399 = .ok (.invokevirtual 79, 3) := by decide +kernel
theorem dX8_init_402 : decode cX8_init 402 = .ok (.aload_n 0, 1) := by decide +kernel
theorem dX8_init_403 : decode cX8_init 403 = .ok (.getfield 28, 3) := by decide +kernel
theorem dX8_init_406 : decode cX8_init 406 = .ok (.bipush 96, 2) := by decide +kernel
theorem dX8_init_408 : decode cX8_init 408 = .ok (.bipush 12, 2) := by decide +kernel
theorem dX8_init_410 : decode cX8_init 410 = .ok (.iastore, 1) := by decide +kernel
theorem dX8_init_411 : decode cX8_init 411 = .ok (.aload_n 0, 1) := by decide +kernel
theorem dX8_init_412 : decode cX8_init 412 = .ok (.iconst 2, 1) := by decide +kernel
theorem dX8_init_413 : decode cX8_init 413 = .ok (.iconst 3, 1) := by decide +kernel
theorem dX8_init_414 : decode cX8_init 414 = .ok (.iconst 2, 1) := by decide +kernel
theorem dX8_init_415 : decode cX8_init 415 = .ok (.iconst 1, 1) := by decide +kernel
theorem dX8_init_416 : decode cX8_init 416 = .ok (.invokevirtual 84, 3) := by decide +kernel
theorem dX8_init_419 : decode cX8_init 419 = .ok (.aload_n 0, 1) := by decide +kernel
theorem dX8_init_420 : decode cX8_init 420 = .ok (.invokevirtual 88, 3) := by decide +kernel
theorem dX8_init_423 : decode cX8_init 423 = .ok (.return_, 1) := by decide +kernel
theorem dX8_in_0 : decode cX8_in 0 = .ok (.lload_n 0, 1) := by decide +kernel
theorem dX8_in_1 : decode cX8_in 1 = .ok (.lload_n 2, 1) := by decide +kernel
theorem dX8_in_2 : decode cX8_in 2 = .ok (.lcmp, 1) := by decide +kernel
theorem dX8_in_3 : decode cX8_in 3 = .ok (.ifCond .lt 14, 3) := by decide +kernel
theorem dX8_in_6 : decode cX8_in 6 = .ok (.lload_n 0, 1) := by decide +kernel
theorem dX8_in_7 : decode cX8_in 7 = .ok (.lload 4, 2) := by decide +kernel
theorem dX8_in_9 : decode cX8_in 9 = .ok (.lcmp, 1) := by decide +kernel
theorem dX8_in_10 : decode cX8_in 10 = .ok (.ifCond .gt 7, 3) := by decide +kernel
theorem dX8_in_13 : decode cX8_in 13 = .ok (.iconst 1, 1) := by decide +kernel
theorem dX8_in_14 : decode cX8_in 14 = .ok (.goto 4, 3) := by decide +kernel
theorem dX8_in_17 : decode cX8_in 17 = .ok (.iconst 0, 1) := by decide +kernel
theorem dX8_in_18 : decode cX8_in 18 = .ok (.ireturn, 1) := by decide +kernel
theorem dX8_has_0 : decode cX8_has 0 = .ok (.iload_n 0, 1) := by decide +kernel
theorem dX8_has_1 : decode cX8_has 1 = .ok (.iload_n 1, 1) := by decide +kernel
theorem dX8_has_2 : decode cX8_has 2 = .ok (.ishr, 1) := by decide +kernel
theorem dX8_has_3 : decode cX8_has 3 = .ok (.iconst 1, 1) := by decide +kernel
theorem dX8_has_4 : decode cX8_has 4 = .ok (.iand, 1) := by decide +kernel
theorem dX8_has_5 : decode cX8_has 5 = .ok (.iconst 1, 1) := by decide +kernel
theorem dX8_has_6 : decode cX8_has 6 = .ok (.if_icmp .ne 7, 3) := by decide +kernel
theorem dX8_has_9 : decode cX8_has 9 = .ok (.iconst 1, 1) := by decide +kernel
theorem dX8_has_10 : decode cX8_has 10 = .ok (.goto 4, 3) := by decide +kernel
theorem dX8_has_13 : decode cX8_has 13 = .ok (.iconst 0, 1) := by decide +kernel
theorem dX8_has_14 : decode cX8_has 14 = .ok (.ireturn, 1) := by decide +kernel
theorem dX8_empty_0 : decode cX8_empty 0 = .ok (.aload_n 0, 1) := by decide +kernel
theorem dX8_empty_1 : decode cX8_empty 1 = .ok (.iconst 0, 1) := by decide +kernel
theorem dX8_empty_2 : decode cX8_empty 2 = .ok (.putfield 91, 3) := by decide +kernel
theorem dX8_empty_5 : decode cX8_empty 5 = .ok (.aload_n 0, 1) := by decide +kernel
theorem dX8_empty_6 : decode cX8_empty 6 = .ok (.iconst 0, 1) := by decide +kernel
theorem dX8_empty_7 : decode cX8_empty 7 = .ok (.putfield 71, 3) := by decide +kernel
theorem dX8_empty_10 : decode cX8_empty 10 = .ok (.iconst 0, 1) := by decide +kernel
theorem dX8_empty_11 : decode cX8_empty 11 = .ok (.istore_n 1, 1) := by decide +kernel
theorem dX8_empty_12 : decode cX8_empty 12 = .ok (.iload_n 1, 1) := by decide +kernel
theorem dX8_empty_13 : decode cX8_empty 13 = .ok (.bipush 96, 2) := by decide +kernel
theorem dX8_empty_15 : decode cX8_empty 15 = .ok (.if_icmp .ge 17, 3) := by decide +kernel
theorem dX8_empty_18 : decode cX8_empty 18 = .ok (.aload_n 0, 1) := by decide +kernel
theorem dX8_empty_19 : decode cX8_empty 19 = .ok (.getfield 28, 3) := by decide +kernel
theorem dX8_empty_22 : decode cX8_empty 22 = .ok (.iload_n 1, 1) := by decide +kernel
theorem dX8_empty_23 : decode cX8_empty 23 = .ok (.ldc 83, 2) := by decide +kernel
theorem dX8_empty_25 : decode cX8_empty 25 = .ok (.iastore, 1) := by decide +kernel
theorem dX8_empty_26 : decode cX8_empty 26 = .ok (.iinc 1 1, 3) := by decide +kernel
theorem dX8_empty_29 : decode cX8_empty 29 = .ok (.goto (-17), 3) := by decide +kernel
theorem dX8_empty_32 : decode cX8_empty 32 = .ok (.aload_n 0, 1) := by decide +kernel
theorem dX8_empty_33 : decode cX8_empty 33 = .ok (.getfield 28, 3) := by decide +kernel
theorem dX8_empty_36 : decode cX8_empty 36 = .ok (.bipush 96, 2) := by decide +kernel
theorem dX8_empty_38 : decode cX8_empty 38 = .ok (.bipush 20, 2) := by decide +kernel
theorem dX8_empty_40 : decode cX8_empty 40 = .ok (.iastore, 1) := by decide +kernel
theorem dX8_empty_41 : decode cX8_empty 41 = .ok (.aload_n 0, 1) := by decide +kernel
theorem dX8_empty_42 : decode cX8_empty 42 = .ok (.iconst 2, 1) := by decide +kernel
theorem dX8_empty_43 : decode cX8_empty 43 = .ok (.iconst 3, 1) := by decide +kernel
theorem dX8_empty_44 : decode cX8_empty 44 = .ok (.iconst 2, 1) := by decide +kernel
theorem dX8_empty_45 : decode cX8_empty 45 = .ok (.iconst 0, 1) := by decide +kernel
theorem dX8_empty_46 : decode cX8_empty 46 = .ok (.invokevirtual 84, 3) := by decide +kernel
theorem dX8_empty_49 : decode cX8_empty 49 = .ok (.aload_n 0, 1) := by decide +kernel
theorem dX8_empty_50 : decode cX8_empty 50 = .ok (.getfield 28, 3) := by decide +kernel
theorem dX8_empty_53 : decode cX8_empty 53 = .ok (.bipush 101, 2) := by decide +kernel
theorem dX8_empty_55 : decode cX8_empty 55 = .ok (.iconst 0, 1) := by decide +kernel
theorem dX8_empty_56 : decode cX8_empty 56 = .ok (.iastore, 1) := by decide +kernel
theorem dX8_empty_57 : decode cX8_empty 57 = .ok (.return_, 1) := by decide +kernel
theorem dX8_rulesAre_0 : decode cX8_rulesAre 0 = .ok (.aload_n 0, 1) := by decide +kernel
theorem dX8_rulesAre_1 : decode cX8_rulesAre 1 = .ok (.getfield 28, 3) := by decide +kernel
theorem dX8_rulesAre_4 : decode cX8_rulesAre 4 = .ok (.bipush 97, 2) := by decide +kernel
theorem dX8_rulesAre_6 : decode cX8_rulesAre 6 = .ok (.iload_n 1, 1) := by decide +kernel
theorem dX8_rulesAre_7 : decode cX8_rulesAre 7 = .ok (.iastore, 1) := by decide +kernel
theorem dX8_rulesAre_8 : decode cX8_rulesAre 8 = .ok (.aload_n 0, 1) := by decide +kernel
theorem dX8_rulesAre_9 : decode cX8_rulesAre 9 = .ok (.getfield 28, 3) := by decide +kernel
theorem dX8_rulesAre_12 : decode cX8_rulesAre 12 = .ok (.bipush 98, 2) := by decide +kernel
theorem dX8_rulesAre_14 : decode cX8_rulesAre 14 = .ok (.iload_n 2, 1) := by decide +kernel
theorem dX8_rulesAre_15 : decode cX8_rulesAre 15 = .ok (.iastore, 1) := by decide +kernel
theorem dX8_rulesAre_16 : decode cX8_rulesAre 16 = .ok (.aload_n 0, 1) := by decide +kernel
theorem dX8_rulesAre_17 : decode cX8_rulesAre 17 = .ok (.getfield 28, 3) := by decide +kernel
theorem dX8_rulesAre_20 : decode cX8_rulesAre 20 = .ok (.bipush 99, 2) := by decide +kernel
theorem dX8_rulesAre_22 : decode cX8_rulesAre 22 = .ok (.iload_n 3, 1) := by decide +kernel
theorem dX8_rulesAre_23 : decode cX8_rulesAre 23 = .ok (.iastore, 1) := by decide +kernel
theorem dX8_rulesAre_24 : decode cX8_rulesAre 24 = .ok (.aload_n 0, 1) := by decide +kernel
theorem dX8_rulesAre_25 : decode cX8_rulesAre 25 = .ok (.getfield 28, 3) := by decide +kernel
theorem dX8_rulesAre_28 : decode cX8_rulesAre 28 = .ok (.bipush 100, 2) := by decide +kernel
theorem dX8_rulesAre_30 : decode cX8_rulesAre 30 = .ok (.iload 4, 2) := by decide +kernel
theorem dX8_rulesAre_32 : decode cX8_rulesAre 32 = .ok (.iastore, 1) := by decide +kernel
theorem dX8_rulesAre_33 : decode cX8_rulesAre 33 = .ok (.return_, 1) := by decide +kernel
theorem dX8_stationIs_0 : decode cX8_stationIs 0 = .ok (.aload_n 0, 1) := by decide +kernel
theorem dX8_stationIs_1 : decode cX8_stationIs 1 = .ok (.getfield 22, 3) := by decide +kernel
theorem dX8_stationIs_4 : decode cX8_stationIs 4 = .ok (.aload_n 0, 1) := by decide +kernel
theorem dX8_stationIs_5 : decode cX8_stationIs 5 = .ok (.getfield 91, 3) := by decide +kernel
theorem dX8_stationIs_8 : decode cX8_stationIs 8 = .ok (.iload_n 1, 1) := by decide +kernel
theorem dX8_stationIs_9 : decode cX8_stationIs 9 = .ok (.iastore, 1) := by decide +kernel
theorem dX8_stationIs_10 : decode cX8_stationIs 10 = .ok (.aload_n 0, 1) := by decide +kernel
theorem dX8_stationIs_11 : decode cX8_stationIs 11 = .ok (.getfield 25, 3) := by decide +kernel
theorem dX8_stationIs_14 : decode cX8_stationIs 14 = .ok (.aload_n 0, 1) := by decide +kernel
theorem dX8_stationIs_15 : decode cX8_stationIs 15 = .ok (.getfield 91, 3) := by decide +kernel
theorem dX8_stationIs_18 : decode cX8_stationIs 18 = .ok (.iload_n 2, 1) := by decide +kernel
theorem dX8_stationIs_19 : decode cX8_stationIs 19 = .ok (.iastore, 1) := by decide +kernel
theorem dX8_stationIs_20 : decode cX8_stationIs 20 = .ok (.aload_n 0, 1) := by decide +kernel
theorem dX8_stationIs_21 : decode cX8_stationIs 21 = .ok (.dup, 1) := by decide +kernel
theorem dX8_stationIs_22 : decode cX8_stationIs 22 = .ok (.getfield 91, 3) := by decide +kernel
theorem dX8_stationIs_25 : decode cX8_stationIs 25 = .ok (.iconst 1, 1) := by decide +kernel
theorem dX8_stationIs_26 : decode cX8_stationIs 26 = .ok (.iadd, 1) := by decide +kernel
theorem dX8_stationIs_27 : decode cX8_stationIs 27 = .ok (.putfield 91, 3) := by decide +kernel
theorem dX8_stationIs_30 : decode cX8_stationIs 30 = .ok (.return_, 1) := by decide +kernel
theorem dX8_valuesAre_0 : decode cX8_valuesAre 0 = .ok (.bipush 16, 2) := by decide +kernel
theorem dX8_valuesAre_2 : decode cX8_valuesAre 2 = .ok (.aload_n 0, 1) := by decide +kernel
theorem dX8_valuesAre_3 : decode cX8_valuesAre 3 = .ok (.getfield 91, 3) := by decide +kernel
theorem dX8_valuesAre_6 : decode cX8_valuesAre 6 = .ok (.iconst 1, 1) := by decide +kernel
theorem dX8_valuesAre_7 : decode cX8_valuesAre 7 = .ok (.isub, 1) := by decide +kernel
theorem dX8_valuesAre_8 : decode cX8_valuesAre 8 = .ok (.imul, 1) := by decide +kernel
theorem dX8_valuesAre_9 : decode cX8_valuesAre 9 = .ok (.iload_n 1, 1) := by decide +kernel
theorem dX8_valuesAre_10 : decode cX8_valuesAre 10 = .ok (.iadd, 1) := by decide +kernel
theorem dX8_valuesAre_11 : decode cX8_valuesAre 11 = .ok (.istore 7, 2) := by decide +kernel
theorem dX8_valuesAre_13 : decode cX8_valuesAre 13 = .ok (.aload_n 0, 1) := by decide +kernel
theorem dX8_valuesAre_14 : decode cX8_valuesAre 14 = .ok (.getfield 28, 3) := by decide +kernel
theorem dX8_valuesAre_17 : decode cX8_valuesAre 17 = .ok (.iload 7, 2) := by decide +kernel
theorem dX8_valuesAre_19 : decode cX8_valuesAre 19 = .ok (.iload_n 2, 1) := by decide +kernel
theorem dX8_valuesAre_20 : decode cX8_valuesAre 20 = .ok (.iastore, 1) := by decide +kernel
theorem dX8_valuesAre_21 : decode cX8_valuesAre 21 = .ok (.aload_n 0, 1) := by decide +kernel
theorem dX8_valuesAre_22 : decode cX8_valuesAre 22 = .ok (.getfield 28, 3) := by decide +kernel
theorem dX8_valuesAre_25 : decode cX8_valuesAre 25 = .ok (.iload 7, 2) := by decide +kernel
theorem dX8_valuesAre_27 : decode cX8_valuesAre 27 = .ok (.iconst 1, 1) := by decide +kernel
theorem dX8_valuesAre_28 : decode cX8_valuesAre 28 = .ok (.iadd, 1) := by decide +kernel
theorem dX8_valuesAre_29 : decode cX8_valuesAre 29 = .ok (.iload_n 3, 1) := by decide +kernel
theorem dX8_valuesAre_30 : decode cX8_valuesAre 30 = .ok (.iastore, 1) := by decide +kernel
theorem dX8_valuesAre_31 : decode cX8_valuesAre 31 = .ok (.aload_n 0, 1) := by decide +kernel
theorem dX8_valuesAre_32 : decode cX8_valuesAre 32 = .ok (.getfield 28, 3) := by decide +kernel
theorem dX8_valuesAre_35 : decode cX8_valuesAre 35 = .ok (.iload 7, 2) := by decide +kernel
theorem dX8_valuesAre_37 : decode cX8_valuesAre 37 = .ok (.iconst 2, 1) := by decide +kernel
theorem dX8_valuesAre_38 : decode cX8_valuesAre 38 = .ok (.iadd, 1) := by decide +kernel
theorem dX8_valuesAre_39 : decode cX8_valuesAre 39 = .ok (.iload 4, 2) := by decide +kernel
theorem dX8_valuesAre_41 : decode cX8_valuesAre 41 = .ok (.iastore, 1) := by decide +kernel
theorem dX8_valuesAre_42 : decode cX8_valuesAre 42 = .ok (.aload_n 0, 1) := by decide +kernel
theorem dX8_valuesAre_43 : decode cX8_valuesAre 43 = .ok (.getfield 28, 3) := by decide +kernel
theorem dX8_valuesAre_46 : decode cX8_valuesAre 46 = .ok (.iload 7, 2) := by decide +kernel
theorem dX8_valuesAre_48 : decode cX8_valuesAre 48 = .ok (.iconst 3, 1) := by decide +kernel
theorem dX8_valuesAre_49 : decode cX8_valuesAre 49 = .ok (.iadd, 1) := by decide +kernel
theorem dX8_valuesAre_50 : decode cX8_valuesAre 50 = .ok (.iload 5, 2) := by decide +kernel
theorem dX8_valuesAre_52 : decode cX8_valuesAre 52 = .ok (.iastore, 1) := by decide +kernel
theorem dX8_valuesAre_53 : decode cX8_valuesAre 53 = .ok (.iload_n 1, 1) := by decide +kernel
theorem dX8_valuesAre_54 : decode cX8_valuesAre 54 = .ok (.bipush 10, 2) := by decide +kernel
theorem dX8_valuesAre_56 : decode cX8_valuesAre 56 = .ok (.if_icmp .ge 14, 3) := by decide +kernel
theorem dX8_valuesAre_59 : decode cX8_valuesAre 59 = .ok (.aload_n 0, 1) := by decide +kernel
theorem dX8_valuesAre_60 : decode cX8_valuesAre 60 = .ok (.getfield 28, 3) := by decide +kernel
theorem dX8_valuesAre_63 : decode cX8_valuesAre 63 = .ok (.iload 7, 2) := by decide +kernel
theorem dX8_valuesAre_65 : decode cX8_valuesAre 65 = .ok (.iconst 4, 1) := by decide +kernel
theorem dX8_valuesAre_66 : decode cX8_valuesAre 66 = .ok (.iadd, 1) := by decide +kernel
theorem dX8_valuesAre_67 : decode cX8_valuesAre 67 = .ok (.iload 6, 2) := by decide +kernel
theorem dX8_valuesAre_69 : decode cX8_valuesAre 69 = .ok (.iastore, 1) := by decide +kernel
theorem dX8_valuesAre_70 : decode cX8_valuesAre 70 = .ok (.return_, 1) := by decide +kernel
theorem dX8_write_0 : decode cX8_write 0 = .ok (.iload_n 1, 1) := by decide +kernel
theorem dX8_write_1 : decode cX8_write 1 = .ok (.i2l, 1) := by decide +kernel
theorem dX8_write_2 : decode cX8_write 2 = .ok (.ldc2_w 94, 3) := by decide +kernel
theorem dX8_write_5 : decode cX8_write 5 = .ok (.ldc2_w 96, 3) := by decide +kernel
theorem dX8_write_8 : decode cX8_write 8 = .ok (.invokestatic 98, 3) := by decide +kernel
theorem dX8_write_11 : decode cX8_write 11 = .ok (.ifCond .ne 5, 3) := by decide +kernel
theorem dX8_write_14 : decode cX8_write 14 = .ok (.iconst (-1), 1) := by decide +kernel
theorem dX8_write_15 : decode cX8_write 15 = .ok (.ireturn, 1) := by decide +kernel
theorem dX8_write_16 : decode cX8_write 16 = .ok (.aload_n 0, 1) := by decide +kernel
theorem dX8_write_17 : decode cX8_write 17 = .ok (.getfield 102, 3) := by decide +kernel
theorem dX8_write_20 : decode cX8_write 20 = .ok (.sipush 200, 3) := by decide +kernel
theorem dX8_write_23 : decode cX8_write 23 = .ok (.if_icmp .ne 6, 3) := by decide +kernel
theorem dX8_write_26 : decode cX8_write 26 = .ok (.bipush (-3), 2) := by decide +kernel
theorem dX8_write_28 : decode cX8_write 28 = .ok (.ireturn, 1) := by decide +kernel
theorem dX8_write_29 : decode cX8_write 29 = .ok (.aload_n 0, 1) := by decide +kernel
theorem dX8_write_30 : decode cX8_write 30 = .ok (.getfield 7, 3) := by decide +kernel
theorem dX8_write_33 : decode cX8_write 33 = .ok (.aload_n 0, 1) := by decide +kernel
theorem dX8_write_34 : decode cX8_write 34 = .ok (.getfield 102, 3) := by decide +kernel
theorem dX8_write_37 : decode cX8_write 37 = .ok (.iload_n 1, 1) := by decide +kernel
theorem dX8_write_38 : decode cX8_write 38 = .ok (.iastore, 1) := by decide +kernel
theorem dX8_write_39 : decode cX8_write 39 = .ok (.aload_n 0, 1) := by decide +kernel
theorem dX8_write_40 : decode cX8_write 40 = .ok (.dup, 1) := by decide +kernel
theorem dX8_write_41 : decode cX8_write 41 = .ok (.getfield 102, 3) := by decide +kernel
theorem dX8_write_44 : decode cX8_write 44 = .ok (.iconst 1, 1) := by decide +kernel
theorem dX8_write_45 : decode cX8_write 45 = .ok (.iadd, 1) := by decide +kernel
theorem dX8_write_46 : decode cX8_write 46 = .ok (.putfield 102, 3) := by decide +kernel
theorem dX8_write_49 : decode cX8_write 49 = .ok (.aload_n 0, 1) := by decide +kernel
theorem dX8_write_50 : decode cX8_write 50 = .ok (.getfield 102, 3) := by decide +kernel
theorem dX8_write_53 : decode cX8_write 53 = .ok (.ireturn, 1) := by decide +kernel
theorem dX8_wipe_0 : decode cX8_wipe 0 = .ok (.aload_n 0, 1) := by decide +kernel
theorem dX8_wipe_1 : decode cX8_wipe 1 = .ok (.getfield 102, 3) := by decide +kernel
theorem dX8_wipe_4 : decode cX8_wipe 4 = .ok (.istore_n 1, 1) := by decide +kernel
theorem dX8_wipe_5 : decode cX8_wipe 5 = .ok (.aload_n 0, 1) := by decide +kernel
theorem dX8_wipe_6 : decode cX8_wipe 6 = .ok (.iconst 0, 1) := by decide +kernel
theorem dX8_wipe_7 : decode cX8_wipe 7 = .ok (.putfield 102, 3) := by decide +kernel
theorem dX8_wipe_10 : decode cX8_wipe 10 = .ok (.iload_n 1, 1) := by decide +kernel
theorem dX8_wipe_11 : decode cX8_wipe 11 = .ok (.ireturn, 1) := by decide +kernel
theorem dX8_letterAt_0 : decode cX8_letterAt 0 = .ok (.iload_n 1, 1) := by decide +kernel
theorem dX8_letterAt_1 : decode cX8_letterAt 1 = .ok (.aload_n 0, 1) := by decide +kernel
theorem dX8_letterAt_2 : decode cX8_letterAt 2 = .ok (.getfield 102, 3) := by decide +kernel
theorem dX8_letterAt_5 : decode cX8_letterAt 5 = .ok (.if_icmp .ge 12, 3) := by decide +kernel
theorem dX8_letterAt_8 : decode cX8_letterAt 8 = .ok (.aload_n 0, 1) := by decide +kernel
theorem dX8_letterAt_9 : decode cX8_letterAt 9 = .ok (.getfield 7, 3) := by decide +kernel
theorem dX8_letterAt_12 : decode cX8_letterAt 12 = .ok (.iload_n 1, 1) := by decide +kernel
theorem dX8_letterAt_13 : decode cX8_letterAt 13 = .ok (.iaload, 1) := by decide +kernel
theorem dX8_letterAt_14 : decode cX8_letterAt 14 = .ok (.goto 4, 3) := by decide +kernel
theorem dX8_letterAt_17 : decode cX8_letterAt 17 = .ok (.iconst 0, 1) := by decide +kernel
theorem dX8_letterAt_18 : decode cX8_letterAt 18 = .ok (.ireturn, 1) := by decide +kernel
theorem dX8_sign_0 : decode cX8_sign 0 = .ok (.aload_n 0, 1) := by decide +kernel
theorem dX8_sign_1 : decode cX8_sign 1 = .ok (.aload_n 0, 1) := by decide +kernel
theorem dX8_sign_2 : decode cX8_sign 2 = .ok (.getfield 105, 3) := by decide +kernel
theorem dX8_sign_5 : decode cX8_sign 5 = .ok (.invokevirtual 108, 3) := by decide +kernel
theorem dX8_sign_8 : decode cX8_sign 8 = .ok (.istore_n 3, 1) := by decide +kernel
theorem dX8_sign_9 : decode cX8_sign 9 = .ok (.iload_n 3, 1) := by decide +kernel
theorem dX8_sign_10 : decode cX8_sign 10 = .ok (.i2l, 1) := by decide +kernel
theorem dX8_sign_11 : decode cX8_sign 11 = .ok (.ldc2_w 112, 3) := by decide +kernel
theorem dX8_sign_14 : decode cX8_sign 14 = .ok (.ldc2_w 114, 3) := by decide +kernel
theorem dX8_sign_17 : decode cX8_sign 17 = .ok (.invokestatic 98, 3) := by decide +kernel
theorem dX8_sign_20 : decode cX8_sign 20 = .ok (.ifCond .eq 10, 3) := by decide +kernel
theorem dX8_sign_23 : decode cX8_sign 23 = .ok (.iload_n 3, 1) := by decide +kernel
theorem dX8_sign_24 : decode cX8_sign 24 = .ok (.bipush 48, 2) := by decide +kernel
theorem dX8_sign_26 : decode cX8_sign 26 = .ok (.isub, 1) := by decide +kernel
theorem dX8_sign_27 : decode cX8_sign 27 = .ok (.goto 25, 3) := by decide +kernel
theorem dX8_sign_30 : decode cX8_sign 30 = .ok (.iload_n 3, 1) := by decide +kernel
theorem dX8_sign_31 : decode cX8_sign 31 = .ok (.i2l, 1) := by decide +kernel
theorem dX8_sign_32 : decode cX8_sign 32 = .ok (.ldc2_w 116, 3) := by decide +kernel
theorem dX8_sign_35 : decode cX8_sign 35 = .ok (.ldc2_w 118, 3) := by decide +kernel
theorem dX8_sign_38 : decode cX8_sign 38 = .ok (.invokestatic 98, 3) := by decide +kernel
theorem dX8_sign_41 : decode cX8_sign 41 = .ok (.ifCond .eq 10, 3) := by decide +kernel
theorem dX8_sign_44 : decode cX8_sign 44 = .ok (.iload_n 3, 1) := by decide +kernel
theorem dX8_sign_45 : decode cX8_sign 45 = .ok (.bipush 87, 2) := by decide +kernel
theorem dX8_sign_47 : decode cX8_sign 47 = .ok (.isub, 1) := by decide +kernel
theorem dX8_sign_48 : decode cX8_sign 48 = .ok (.goto 4, 3) := by decide +kernel
theorem dX8_sign_51 : decode cX8_sign 51 = .ok (.iconst (-1), 1) := by decide +kernel
theorem dX8_sign_52 : decode cX8_sign 52 = .ok (.istore 4, 2) := by decide +kernel
theorem dX8_sign_54 : decode cX8_sign 54 = .ok (.iload 4, 2) := by decide +kernel
theorem dX8_sign_56 : decode cX8_sign 56 = .ok (.i2l, 1) := by decide +kernel
theorem dX8_sign_57 : decode cX8_sign 57 = .ok (.iload_n 1, 1) := by decide +kernel
theorem dX8_sign_58 : decode cX8_sign 58 = .ok (.i2l, 1) := by decide +kernel
theorem dX8_sign_59 : decode cX8_sign 59 = .ok (.iload_n 2, 1) := by decide +kernel
theorem dX8_sign_60 : decode cX8_sign 60 = .ok (.i2l, 1) := by decide +kernel
theorem dX8_sign_61 : decode cX8_sign 61 = .ok (.invokestatic 98, 3) := by decide +kernel
theorem dX8_sign_64 : decode cX8_sign 64 = .ok (.ifCond .ne 6, 3) := by decide +kernel
theorem dX8_sign_67 : decode cX8_sign 67 = .ok (.bipush (-4), 2) := by decide +kernel
theorem dX8_sign_69 : decode cX8_sign 69 = .ok (.ireturn, 1) := by decide +kernel
theorem dX8_sign_70 : decode cX8_sign 70 = .ok (.aload_n 0, 1) := by decide +kernel
theorem dX8_sign_71 : decode cX8_sign 71 = .ok (.dup, 1) := by decide +kernel
theorem dX8_sign_72 : decode cX8_sign 72 = .ok (.getfield 105, 3) := by decide +kernel
theorem dX8_sign_75 : decode cX8_sign 75 = .ok (.iconst 1, 1) := by decide +kernel
theorem dX8_sign_76 : decode cX8_sign 76 = .ok (.iadd, 1) := by decide +kernel
theorem dX8_sign_77 : decode cX8_sign 77 = .ok (.putfield 105, 3) := by decide +kernel
theorem dX8_sign_80 : decode cX8_sign 80 = .ok (.iload 4, 2) := by decide +kernel
theorem dX8_sign_82 : decode cX8_sign 82 = .ok (.ireturn, 1) := by decide +kernel
theorem dX8_ends_0 : decode cX8_ends 0 = .ok (.aload_n 0, 1) := by decide +kernel
theorem dX8_ends_1 : decode cX8_ends 1 = .ok (.dup, 1) := by decide +kernel
theorem dX8_ends_2 : decode cX8_ends 2 = .ok (.getfield 105, 3) := by decide +kernel
theorem dX8_ends_5 : decode cX8_ends 5 = .ok (.iconst 1, 1) := by decide +kernel
theorem dX8_ends_6 : decode cX8_ends 6 = .ok (.iadd, 1) := by decide +kernel
theorem dX8_ends_7 : decode cX8_ends 7 = .ok (.putfield 105, 3) := by decide +kernel
theorem dX8_ends_10 : decode cX8_ends 10 = .ok (.aload_n 0, 1) := by decide +kernel
theorem dX8_ends_11 : decode cX8_ends 11 = .ok (.aload_n 0, 1) := by decide +kernel
theorem dX8_ends_12 : decode cX8_ends 12 = .ok (.getfield 105, 3) := by decide +kernel
theorem dX8_ends_15 : decode cX8_ends 15 = .ok (.iconst 1, 1) := by decide +kernel
theorem dX8_ends_16 : decode cX8_ends 16 = .ok (.isub, 1) := by decide +kernel
theorem dX8_ends_17 : decode cX8_ends 17 = .ok (.invokevirtual 108, 3) := by decide +kernel
theorem dX8_ends_20 : decode cX8_ends 20 = .ok (.bipush 59, 2) := by decide +kernel
theorem dX8_ends_22 : decode cX8_ends 22 = .ok (.if_icmp .ne 7, 3) := by decide +kernel
theorem dX8_ends_25 : decode cX8_ends 25 = .ok (.iconst 1, 1) := by decide +kernel
theorem dX8_ends_26 : decode cX8_ends 26 = .ok (.goto 4, 3) := by decide +kernel
theorem dX8_ends_29 : decode cX8_ends 29 = .ok (.iconst 0, 1) := by decide +kernel
theorem dX8_ends_30 : decode cX8_ends 30 = .ok (.ireturn, 1) := by decide +kernel
theorem dX8_yearsItem_0 : decode cX8_yearsItem 0 = .ok (.aload_n 0, 1) := by decide +kernel
theorem dX8_yearsItem_1 : decode cX8_yearsItem 1 = .ok (.aload_n 0, 1) := by decide +kernel
theorem dX8_yearsItem_2 : decode cX8_yearsItem 2 = .ok (.iconst 4, 1) := by decide +kernel
theorem dX8_yearsItem_3 : decode cX8_yearsItem 3 = .ok (.bipush 16, 2) := by decide +kernel
theorem dX8_yearsItem_5 : decode cX8_yearsItem 5 = .ok (.invokevirtual 120, 3) := by decide +kernel
theorem dX8_yearsItem_8 : decode cX8_yearsItem 8 = .ok (.putfield 71, 3) := by decide +kernel
theorem dX8_yearsItem_11 : decode cX8_yearsItem 11 = .ok (.aload_n 0, 1) := by decide +kernel
theorem dX8_yearsItem_12 : decode cX8_yearsItem 12 = .ok (.getfield 71, 3) := by decide +kernel
theorem dX8_yearsItem_15 : decode cX8_yearsItem 15 = .ok (.bipush (-4), 2) := by decide +kernel
theorem dX8_yearsItem_17 : decode cX8_yearsItem 17 = .ok (.if_icmp .eq 14, 3) := by decide +kernel
theorem dX8_yearsItem_20 : decode cX8_yearsItem 20 = .ok (.aload_n 0, 1) := by decide +kernel
theorem dX8_yearsItem_21 : decode cX8_yearsItem 21 = .ok (.invokevirtual 124, 3) := by decide +kernel
theorem dX8_yearsItem_24 : decode cX8_yearsItem 24 = .ok (.ifCond .eq 7, 3) := by decide +kernel
theorem dX8_yearsItem_27 : decode cX8_yearsItem 27 = .ok (.iconst 1, 1) := by decide +kernel
theorem dX8_yearsItem_28 : decode cX8_yearsItem 28 = .ok (.goto 4, 3) := by decide +kernel
theorem dX8_yearsItem_31 : decode cX8_yearsItem 31 = .ok (.iconst 0, 1) := by decide +kernel
theorem dX8_yearsItem_32 : decode cX8_yearsItem 32 = .ok (.ireturn, 1) := by decide +kernel
theorem dX8_stationItem_0 : decode cX8_stationItem 0 = .ok (.aload_n 0, 1) := by decide +kernel
theorem dX8_stationItem_1 : decode cX8_stationItem 1 = .ok (.iconst 0, 1) := by decide +kernel
theorem dX8_stationItem_2 : decode cX8_stationItem 2 = .ok (.bipush 28, 2) := by decide +kernel
theorem dX8_stationItem_4 : decode cX8_stationItem 4 = .ok (.invokevirtual 120, 3) := by decide +kernel
theorem dX8_stationItem_7 : decode cX8_stationItem 7 = .ok (.istore_n 1, 1) := by decide +kernel
theorem dX8_stationItem_8 : decode cX8_stationItem 8 = .ok (.iload_n 1, 1) := by decide +kernel
theorem dX8_stationItem_9 : decode cX8_stationItem 9 = .ok (.bipush (-4), 2) := by decide +kernel
theorem dX8_stationItem_11 : decode cX8_stationItem 11 = .ok (.if_icmp .ne 8, 3) := by decide +kernel
theorem dX8_stationItem_14 : decode cX8_stationItem 14 = .ok (.bipush (-4), 2) := by decide +kernel
theorem dX8_stationItem_16 : decode cX8_stationItem 16 = .ok (.goto 10, 3) := by decide +kernel
theorem dX8_stationItem_19 : decode cX8_stationItem 19 = .ok (.aload_n 0, 1) := by decide +kernel
theorem dX8_stationItem_20 : decode cX8_stationItem 20 = .ok (.iconst 0, 1) := by decide +kernel
theorem dX8_stationItem_21 : decode cX8_stationItem 21 = .ok (.bipush 28, 2) := by decide +kernel
theorem dX8_stationItem_23 : decode cX8_stationItem 23 = .ok (.invokevirtual 120, 3) := by decide +kernel
theorem dX8_stationItem_26 : decode cX8_stationItem 26 = .ok (.istore_n 2, 1) := by decide +kernel
theorem dX8_stationItem_27 : decode cX8_stationItem 27 = .ok (.iload_n 2, 1) := by decide +kernel
theorem dX8_stationItem_28 : decode cX8_stationItem 28 = .ok (.bipush (-4), 2) := by decide +kernel
theorem dX8_stationItem_30 : decode cX8_stationItem 30 = .ok (.if_icmp .eq 12, 3) := by decide +kernel
theorem dX8_stationItem_33 : decode cX8_stationItem 33 = .ok (.aload_n 0, 1) := by decide +kernel
theorem dX8_stationItem_34 : decode cX8_stationItem 34 = .ok (.getfield 91, 3) := by decide +kernel
theorem dX8_stationItem_37 : decode cX8_stationItem 37 = .ok (.bipush 6, 2) := by decide +kernel
theorem dX8_stationItem_39 : decode cX8_stationItem 39 = .ok (.if_icmp .ne 5, 3) := by decide +kernel
theorem dX8_stationItem_42 : decode cX8_stationItem 42 = .ok (.iconst 0, 1) := by decide +kernel
theorem dX8_stationItem_43 : decode cX8_stationItem 43 = .ok (.ireturn, 1) := by decide +kernel
theorem dX8_stationItem_44 : decode cX8_stationItem 44 = .ok (.aload_n 0, 1) := by decide +kernel
theorem dX8_stationItem_45 : decode cX8_stationItem 45 = .ok (.iload_n 1, 1) := by decide +kernel
theorem dX8_stationItem_46 : decode cX8_stationItem 46 = .ok (.iload_n 2, 1) := by decide +kernel
theorem dX8_stationItem_47 : decode cX8_stationItem 47 = .ok (.invokevirtual 75, 3) := by decide +kernel
theorem dX8_stationItem_50 : decode cX8_stationItem 50 = .ok (.iconst 0, 1) := by decide +kernel
theorem dX8_stationItem_51 : decode cX8_stationItem 51 = .ok (.istore_n 3, 1) := by decide +kernel
theorem dX8_stationItem_52 : decode cX8_stationItem 52 = .ok (.iload_n 3, 1) := by decide +kernel
theorem dX8_stationItem_53 : decode cX8_stationItem 53 = .ok (.aload_n 0, 1) := by decide +kernel
theorem dX8_stationItem_54 : decode cX8_stationItem 54 = .ok (.getfield 71, 3) := by decide +kernel
theorem dX8_stationItem_57 : decode cX8_stationItem 57 = .ok (.if_icmp .ge 75, 3) := by decide +kernel
theorem dX8_stationItem_60 : decode cX8_stationItem 60 = .ok (.ldc 83, 2) := by decide +kernel
theorem dX8_stationItem_62 : decode cX8_stationItem 62 = .ok (.istore 4, 2) := by decide +kernel
theorem dX8_stationItem_64 : decode cX8_stationItem 64 = .ok (.aload_n 0, 1) := by decide +kernel
theorem dX8_stationItem_65 : decode cX8_stationItem 65 = .ok (.aload_n 0, 1) := by decide +kernel
theorem dX8_stationItem_66 : decode cX8_stationItem 66 = .ok (.getfield 105, 3) := by decide +kernel
theorem dX8_stationItem_69 : decode cX8_stationItem 69 = .ok (.invokevirtual 108, 3) := by decide +kernel
theorem dX8_stationItem_72 : decode cX8_stationItem 72 = .ok (.bipush 46, 2) := by decide +kernel
theorem dX8_stationItem_74 : decode cX8_stationItem 74 = .ok (.if_icmp .ne 16, 3) := by decide +kernel
theorem dX8_stationItem_77 : decode cX8_stationItem 77 = .ok (.aload_n 0, 1) := by decide +kernel
theorem dX8_stationItem_78 : decode cX8_stationItem 78 = .ok (.dup, 1) := by decide +kernel
theorem dX8_stationItem_79 : decode cX8_stationItem 79 = .ok (.getfield 105, 3) := by decide +kernel
theorem dX8_stationItem_82 : decode cX8_stationItem 82 = .ok (.iconst 1, 1) := by decide +kernel
theorem dX8_stationItem_83 : decode cX8_stationItem 83 = .ok (.iadd, 1) := by decide +kernel
theorem dX8_stationItem_84 : decode cX8_stationItem 84 = .ok (.putfield 105, 3) := by decide +kernel
theorem dX8_stationItem_87 : decode cX8_stationItem 87 = .ok (.goto 12, 3) := by decide +kernel
theorem dX8_stationItem_90 : decode cX8_stationItem 90 = .ok (.aload_n 0, 1) := by decide +kernel
theorem dX8_stationItem_91 : decode cX8_stationItem 91 = .ok (.iconst 0, 1) := by decide +kernel
theorem dX8_stationItem_92 : decode cX8_stationItem 92 = .ok (.bipush 28, 2) := by decide +kernel
theorem dX8_stationItem_94 : decode cX8_stationItem 94 = .ok (.invokevirtual 120, 3) := by decide +kernel
theorem dX8_stationItem_97 : decode cX8_stationItem 97 = .ok (.istore 4, 2) := by decide +kernel
theorem dX8_stationItem_99 : decode cX8_stationItem 99 = .ok (.iload 4, 2) := by decide +kernel
theorem dX8_stationItem_101 : decode cX8_stationItem 101 = .ok (.bipush (-4), 2) := by decide +kernel
theorem dX8_stationItem_103 : decode cX8_stationItem 103 = .ok (.if_icmp .ne 5, 3) := by decide +kernel
theorem dX8_stationItem_106 : decode cX8_stationItem 106 = .ok (.iconst 0, 1) := by decide +kernel
theorem dX8_stationItem_107 : decode cX8_stationItem 107 = .ok (.ireturn, 1) := by decide +kernel
theorem dX8_stationItem_108 : decode cX8_stationItem 108 = .ok (.aload_n 0, 1) := by decide +kernel
theorem dX8_stationItem_109 : decode cX8_stationItem 109 = .ok (.getfield 28, 3) := by decide +kernel
theorem dX8_stationItem_112 : decode cX8_stationItem 112 = .ok (.bipush 16, 2) := by decide +kernel
theorem dX8_stationItem_114 : decode cX8_stationItem 114 = .ok (.aload_n 0, 1) := by decide +kernel
theorem dX8_stationItem_115 : decode cX8_stationItem 115 = .ok (.getfield 91, 3) := by decide +kernel
theorem dX8_stationItem_118 : decode cX8_stationItem 118 = .ok (.iconst 1, 1) := by decide +kernel
theorem dX8_stationItem_119 : decode cX8_stationItem 119 = .ok (.isub, 1) := by decide +kernel
theorem dX8_stationItem_120 : decode cX8_stationItem 120 = .ok (.imul, 1) := by decide +kernel
theorem dX8_stationItem_121 : decode cX8_stationItem 121 = .ok (.iload_n 3, 1) := by decide +kernel
theorem dX8_stationItem_122 : decode cX8_stationItem 122 = .ok (.iadd, 1) := by decide +kernel
theorem dX8_stationItem_123 : decode cX8_stationItem 123 = .ok (.iload 4, 2) := by decide +kernel
theorem dX8_stationItem_125 : decode cX8_stationItem 125 = .ok (.iastore, 1) := by decide +kernel
theorem dX8_stationItem_126 : decode cX8_stationItem 126 = .ok (.iinc 3 1, 3) := by decide +kernel
theorem dX8_stationItem_129 : decode cX8_stationItem 129 = .ok (.goto (-77), 3) := by decide +kernel
theorem dX8_stationItem_132 : decode cX8_stationItem 132 = .ok (.aload_n 0, 1) := by decide +kernel
theorem dX8_stationItem_133 : decode cX8_stationItem 133 = .ok (.invokevirtual 124, 3) := by decide +kernel
theorem dX8_stationItem_136 : decode cX8_stationItem 136 = .ok (.ireturn, 1) := by decide +kernel
theorem dX8_penaltyItem_0 : decode cX8_penaltyItem 0 = .ok (.aload_n 0, 1) := by decide +kernel
theorem dX8_penaltyItem_1 : decode cX8_penaltyItem 1 = .ok (.iconst 0, 1) := by decide +kernel
theorem dX8_penaltyItem_2 : decode cX8_penaltyItem 2 = .ok (.bipush 9, 2) := by decide +kernel
theorem dX8_penaltyItem_4 : decode cX8_penaltyItem 4 = .ok (.invokevirtual 120, 3) := by decide +kernel
theorem dX8_penaltyItem_7 : decode cX8_penaltyItem 7 = .ok (.istore_n 1, 1) := by decide +kernel
theorem dX8_penaltyItem_8 : decode cX8_penaltyItem 8 = .ok (.iload_n 1, 1) := by decide +kernel
theorem dX8_penaltyItem_9 : decode cX8_penaltyItem 9 = .ok (.bipush (-4), 2) := by decide +kernel
theorem dX8_penaltyItem_11 : decode cX8_penaltyItem 11 = .ok (.if_icmp .ne 8, 3) := by decide +kernel
theorem dX8_penaltyItem_14 : decode cX8_penaltyItem 14 = .ok (.bipush (-4), 2) := by decide +kernel
theorem dX8_penaltyItem_16 : decode cX8_penaltyItem 16 = .ok (.goto 10, 3) := by decide +kernel
theorem dX8_penaltyItem_19 : decode cX8_penaltyItem 19 = .ok (.aload_n 0, 1) := by decide +kernel
theorem dX8_penaltyItem_20 : decode cX8_penaltyItem 20 = .ok (.iconst 0, 1) := by decide +kernel
theorem dX8_penaltyItem_21 : decode cX8_penaltyItem 21 = .ok (.bipush 9, 2) := by decide +kernel
theorem dX8_penaltyItem_23 : decode cX8_penaltyItem 23 = .ok (.invokevirtual 120, 3) := by decide +kernel
theorem dX8_penaltyItem_26 : decode cX8_penaltyItem 26 = .ok (.istore_n 2, 1) := by decide +kernel
theorem dX8_penaltyItem_27 : decode cX8_penaltyItem 27 = .ok (.iload_n 2, 1) := by decide +kernel
theorem dX8_penaltyItem_28 : decode cX8_penaltyItem 28 = .ok (.bipush (-4), 2) := by decide +kernel
theorem dX8_penaltyItem_30 : decode cX8_penaltyItem 30 = .ok (.if_icmp .ne 5, 3) := by decide +kernel
theorem dX8_penaltyItem_33 : decode cX8_penaltyItem 33 = .ok (.iconst 0, 1) := by decide +kernel
theorem dX8_penaltyItem_34 : decode cX8_penaltyItem 34 = .ok (.ireturn, 1) := by decide +kernel
theorem dX8_penaltyItem_35 : decode cX8_penaltyItem 35 = .ok (.aload_n 0, 1) := by decide +kernel
theorem dX8_penaltyItem_36 : decode cX8_penaltyItem 36 = .ok (.getfield 28, 3) := by decide +kernel
theorem dX8_penaltyItem_39 : decode cX8_penaltyItem 39 = .ok (.bipush 96, 2) := by decide +kernel
theorem dX8_penaltyItem_41 : decode cX8_penaltyItem 41 = .ok (.bipush 10, 2) := by decide +kernel
theorem dX8_penaltyItem_43 : decode cX8_penaltyItem 43 = .ok (.iload_n 1, 1) := by decide +kernel
theorem dX8_penaltyItem_44 : decode cX8_penaltyItem 44 = .ok (.imul, 1) := by decide +kernel
theorem dX8_penaltyItem_45 : decode cX8_penaltyItem 45 = .ok (.iload_n 2, 1) := by decide +kernel
theorem dX8_penaltyItem_46 : decode cX8_penaltyItem 46 = .ok (.iadd, 1) := by decide +kernel
theorem dX8_penaltyItem_47 : decode cX8_penaltyItem 47 = .ok (.iastore, 1) := by decide +kernel
theorem dX8_penaltyItem_48 : decode cX8_penaltyItem 48 = .ok (.aload_n 0, 1) := by decide +kernel
theorem dX8_penaltyItem_49 : decode cX8_penaltyItem 49 = .ok (.invokevirtual 124, 3) := by decide +kernel
theorem dX8_penaltyItem_52 : decode cX8_penaltyItem 52 = .ok (.ireturn, 1) := by decide +kernel
theorem dX8_rulesItem_0 : decode cX8_rulesItem 0 = .ok (.aload_n 0, 1) := by decide +kernel
theorem dX8_rulesItem_1 : decode cX8_rulesItem 1 = .ok (.iconst 1, 1) := by decide +kernel
theorem dX8_rulesItem_2 : decode cX8_rulesItem 2 = .ok (.iconst 4, 1) := by decide +kernel
theorem dX8_rulesItem_3 : decode cX8_rulesItem 3 = .ok (.invokevirtual 120, 3) := by decide +kernel
theorem dX8_rulesItem_6 : decode cX8_rulesItem 6 = .ok (.istore_n 1, 1) := by decide +kernel
theorem dX8_rulesItem_7 : decode cX8_rulesItem 7 = .ok (.iload_n 1, 1) := by decide +kernel
theorem dX8_rulesItem_8 : decode cX8_rulesItem 8 = .ok (.bipush (-4), 2) := by decide +kernel
theorem dX8_rulesItem_10 : decode cX8_rulesItem 10 = .ok (.if_icmp .ne 8, 3) := by decide +kernel
theorem dX8_rulesItem_13 : decode cX8_rulesItem 13 = .ok (.bipush (-4), 2) := by decide +kernel
theorem dX8_rulesItem_15 : decode cX8_rulesItem 15 = .ok (.goto 9, 3) := by decide +kernel
theorem dX8_rulesItem_18 : decode cX8_rulesItem 18 = .ok (.aload_n 0, 1) := by decide +kernel
theorem dX8_rulesItem_19 : decode cX8_rulesItem 19 = .ok (.iconst 1, 1) := by decide +kernel
theorem dX8_rulesItem_20 : decode cX8_rulesItem 20 = .ok (.iconst 5, 1) := by decide +kernel
theorem dX8_rulesItem_21 : decode cX8_rulesItem 21 = .ok (.invokevirtual 120, 3) := by decide +kernel
theorem dX8_rulesItem_24 : decode cX8_rulesItem 24 = .ok (.istore_n 2, 1) := by decide +kernel
theorem dX8_rulesItem_25 : decode cX8_rulesItem 25 = .ok (.iload_n 2, 1) := by decide +kernel
theorem dX8_rulesItem_26 : decode cX8_rulesItem 26 = .ok (.bipush (-4), 2) := by decide +kernel
theorem dX8_rulesItem_28 : decode cX8_rulesItem 28 = .ok (.if_icmp .ne 8, 3) := by decide +kernel
theorem dX8_rulesItem_31 : decode cX8_rulesItem 31 = .ok (.bipush (-4), 2) := by decide +kernel
theorem dX8_rulesItem_33 : decode cX8_rulesItem 33 = .ok (.goto 9, 3) := by decide +kernel
theorem dX8_rulesItem_36 : decode cX8_rulesItem 36 = .ok (.aload_n 0, 1) := by decide +kernel
theorem dX8_rulesItem_37 : decode cX8_rulesItem 37 = .ok (.iconst 1, 1) := by decide +kernel
theorem dX8_rulesItem_38 : decode cX8_rulesItem 38 = .ok (.iconst 5, 1) := by decide +kernel
theorem dX8_rulesItem_39 : decode cX8_rulesItem 39 = .ok (.invokevirtual 120, 3) := by decide +kernel
theorem dX8_rulesItem_42 : decode cX8_rulesItem 42 = .ok (.istore_n 3, 1) := by decide +kernel
theorem dX8_rulesItem_43 : decode cX8_rulesItem 43 = .ok (.iload_n 3, 1) := by decide +kernel
theorem dX8_rulesItem_44 : decode cX8_rulesItem 44 = .ok (.bipush (-4), 2) := by decide +kernel
theorem dX8_rulesItem_46 : decode cX8_rulesItem 46 = .ok (.if_icmp .ne 8, 3) := by decide +kernel
theorem dX8_rulesItem_49 : decode cX8_rulesItem 49 = .ok (.bipush (-4), 2) := by decide +kernel
theorem dX8_rulesItem_51 : decode cX8_rulesItem 51 = .ok (.goto 9, 3) := by decide +kernel
theorem dX8_rulesItem_54 : decode cX8_rulesItem 54 = .ok (.aload_n 0, 1) := by decide +kernel
theorem dX8_rulesItem_55 : decode cX8_rulesItem 55 = .ok (.iconst 0, 1) := by decide +kernel
theorem dX8_rulesItem_56 : decode cX8_rulesItem 56 = .ok (.iconst 2, 1) := by decide +kernel
theorem dX8_rulesItem_57 : decode cX8_rulesItem 57 = .ok (.invokevirtual 120, 3) := by decide +kernel
theorem dX8_rulesItem_60 : decode cX8_rulesItem 60 = .ok (.istore 4, 2) := by decide +kernel
theorem dX8_rulesItem_62 : decode cX8_rulesItem 62 = .ok (.iload 4, 2) := by decide +kernel
theorem dX8_rulesItem_64 : decode cX8_rulesItem 64 = .ok (.bipush (-4), 2) := by decide +kernel
theorem dX8_rulesItem_66 : decode cX8_rulesItem 66 = .ok (.if_icmp .ne 5, 3) := by decide +kernel
theorem dX8_rulesItem_69 : decode cX8_rulesItem 69 = .ok (.iconst 0, 1) := by decide +kernel
theorem dX8_rulesItem_70 : decode cX8_rulesItem 70 = .ok (.ireturn, 1) := by decide +kernel
theorem dX8_rulesItem_71 : decode cX8_rulesItem 71 = .ok (.aload_n 0, 1) := by decide +kernel
theorem dX8_rulesItem_72 : decode cX8_rulesItem 72 = .ok (.iload_n 1, 1) := by decide +kernel
theorem dX8_rulesItem_73 : decode cX8_rulesItem 73 = .ok (.iload_n 2, 1) := by decide +kernel
theorem dX8_rulesItem_74 : decode cX8_rulesItem 74 = .ok (.iload_n 3, 1) := by decide +kernel
theorem dX8_rulesItem_75 : decode cX8_rulesItem 75 = .ok (.iload 4, 2) := by decide +kernel
theorem dX8_rulesItem_77 : decode cX8_rulesItem 77 = .ok (.invokevirtual 84, 3) := by decide +kernel
theorem dX8_rulesItem_80 : decode cX8_rulesItem 80 = .ok (.aload_n 0, 1) := by decide +kernel
theorem dX8_rulesItem_81 : decode cX8_rulesItem 81 = .ok (.invokevirtual 124, 3) := by decide +kernel
theorem dX8_rulesItem_84 : decode cX8_rulesItem 84 = .ok (.ireturn, 1) := by decide +kernel
theorem dX8_item_0 : decode cX8_item 0 = .ok (.iload_n 1, 1) := by decide +kernel
theorem dX8_item_1 : decode cX8_item 1 = .ok (.bipush 115, 2) := by decide +kernel
theorem dX8_item_3 : decode cX8_item 3 = .ok (.if_icmp .ne 10, 3) := by decide +kernel
theorem dX8_item_6 : decode cX8_item 6 = .ok (.aload_n 0, 1) := by decide +kernel
theorem dX8_item_7 : decode cX8_item 7 = .ok (.invokevirtual 128, 3) := by decide +kernel
theorem dX8_item_10 : decode cX8_item 10 = .ok (.goto 34, 3) := by decide +kernel
theorem dX8_item_13 : decode cX8_item 13 = .ok (.iload_n 1, 1) := by decide +kernel
theorem dX8_item_14 : decode cX8_item 14 = .ok (.bipush 112, 2) := by decide +kernel
theorem dX8_item_16 : decode cX8_item 16 = .ok (.if_icmp .ne 10, 3) := by decide +kernel
theorem dX8_item_19 : decode cX8_item 19 = .ok (.aload_n 0, 1) := by decide +kernel
theorem dX8_item_20 : decode cX8_item 20 = .ok (.invokevirtual 131, 3) := by decide +kernel
theorem dX8_item_23 : decode cX8_item 23 = .ok (.goto 21, 3) := by decide +kernel
theorem dX8_item_26 : decode cX8_item 26 = .ok (.iload_n 1, 1) := by decide +kernel
theorem dX8_item_27 : decode cX8_item 27 = .ok (.bipush 108, 2) := by decide +kernel
theorem dX8_item_29 : decode cX8_item 29 = .ok (.if_icmp .ne 14, 3) := by decide +kernel
theorem dX8_item_32 : decode cX8_item 32 = .ok (.aload_n 0, 1) := by decide +kernel
theorem dX8_item_33 : decode cX8_item 33 = .ok (.invokevirtual 134, 3) := by decide +kernel
theorem dX8_item_36 : decode cX8_item 36 = .ok (.ifCond .eq 7, 3) := by decide +kernel
theorem dX8_item_39 : decode cX8_item 39 = .ok (.iconst 1, 1) := by decide +kernel
theorem dX8_item_40 : decode cX8_item 40 = .ok (.goto 4, 3) := by decide +kernel
theorem dX8_item_43 : decode cX8_item 43 = .ok (.iconst 0, 1) := by decide +kernel
theorem dX8_item_44 : decode cX8_item 44 = .ok (.ireturn, 1) := by decide +kernel
theorem dX8_readAll_0 : decode cX8_readAll 0 = .ok (.aload_n 0, 1) := by decide +kernel
theorem dX8_readAll_1 : decode cX8_readAll 1 = .ok (.invokevirtual 68, 3) := by decide +kernel
theorem dX8_readAll_4 : decode cX8_readAll 4 = .ok (.aload_n 0, 1) := by decide +kernel
theorem dX8_readAll_5 : decode cX8_readAll 5 = .ok (.iconst 0, 1) := by decide +kernel
theorem dX8_readAll_6 : decode cX8_readAll 6 = .ok (.putfield 105, 3) := by decide +kernel
theorem dX8_readAll_9 : decode cX8_readAll 9 = .ok (.aload_n 0, 1) := by decide +kernel
theorem dX8_readAll_10 : decode cX8_readAll 10 = .ok (.getfield 105, 3) := by decide +kernel
theorem dX8_readAll_13 : decode cX8_readAll 13 = .ok (.aload_n 0, 1) := by decide +kernel
theorem dX8_readAll_14 : decode cX8_readAll 14 = .ok (.getfield 102, 3) := by decide +kernel
theorem dX8_readAll_17 : decode cX8_readAll 17 = .ok (.if_icmp .ge 67, 3) := by decide +kernel
theorem dX8_readAll_20 : decode cX8_readAll 20 = .ok (.aload_n 0, 1) := by decide +kernel
theorem dX8_readAll_21 : decode cX8_readAll 21 = .ok (.getfield 105, 3) := by decide +kernel
theorem dX8_readAll_24 : decode cX8_readAll 24 = .ok (.istore_n 1, 1) := by decide +kernel
theorem dX8_readAll_25 : decode cX8_readAll 25 = .ok (.aload_n 0, 1) := by decide +kernel
theorem dX8_readAll_26 : decode cX8_readAll 26 = .ok (.aload_n 0, 1) := by decide +kernel
theorem dX8_readAll_27 : decode cX8_readAll 27 = .ok (.getfield 105, 3) := by decide +kernel
theorem dX8_readAll_30 : decode cX8_readAll 30 = .ok (.invokevirtual 108, 3) := by decide +kernel
theorem dX8_readAll_33 : decode cX8_readAll 33 = .ok (.istore_n 2, 1) := by decide +kernel
theorem dX8_readAll_34 : decode cX8_readAll 34 = .ok (.aload_n 0, 1) := by decide +kernel
theorem dX8_readAll_35 : decode cX8_readAll 35 = .ok (.dup, 1) := by decide +kernel
theorem dX8_readAll_36 : decode cX8_readAll 36 = .ok (.getfield 105, 3) := by decide +kernel
theorem dX8_readAll_39 : decode cX8_readAll 39 = .ok (.iconst 1, 1) := by decide +kernel
theorem dX8_readAll_40 : decode cX8_readAll 40 = .ok (.iadd, 1) := by decide +kernel
theorem dX8_readAll_41 : decode cX8_readAll 41 = .ok (.putfield 105, 3) := by decide +kernel
theorem dX8_readAll_44 : decode cX8_readAll 44 = .ok (.iload_n 1, 1) := by decide +kernel
theorem dX8_readAll_45 : decode cX8_readAll 45 = .ok (.ifCond .ne 24, 3) := by decide +kernel
theorem dX8_readAll_48 : decode cX8_readAll 48 = .ok (.iload_n 2, 1) := by decide +kernel
theorem dX8_readAll_49 : decode cX8_readAll 49 = .ok (.bipush 121, 2) := by decide +kernel
theorem dX8_readAll_51 : decode cX8_readAll 51 = .ok (.if_icmp .ne 14, 3) := by decide +kernel
theorem dX8_readAll_54 : decode cX8_readAll 54 = .ok (.aload_n 0, 1) := by decide +kernel
theorem dX8_readAll_55 : decode cX8_readAll 55 = .ok (.invokevirtual 137, 3) := by decide +kernel
theorem dX8_readAll_58 : decode cX8_readAll 58 = .ok (.ifCond .eq 7, 3) := by decide +kernel
theorem dX8_readAll_61 : decode cX8_readAll 61 = .ok (.iconst 1, 1) := by decide +kernel
theorem dX8_readAll_62 : decode cX8_readAll 62 = .ok (.goto 12, 3) := by decide +kernel
theorem dX8_readAll_65 : decode cX8_readAll 65 = .ok (.iconst 0, 1) := by decide +kernel
theorem dX8_readAll_66 : decode cX8_readAll 66 = .ok (.goto 8, 3) := by decide +kernel
theorem dX8_readAll_69 : decode cX8_readAll 69 = .ok (.aload_n 0, 1) := by decide +kernel
theorem dX8_readAll_70 : decode cX8_readAll 70 = .ok (.iload_n 2, 1) := by decide +kernel
theorem dX8_readAll_71 : decode cX8_readAll 71 = .ok (.invokevirtual 140, 3) := by decide +kernel
theorem dX8_readAll_74 : decode cX8_readAll 74 = .ok (.istore_n 3, 1) := by decide +kernel
theorem dX8_readAll_75 : decode cX8_readAll 75 = .ok (.iload_n 3, 1) := by decide +kernel
theorem dX8_readAll_76 : decode cX8_readAll 76 = .ok (.ifCond .ne 5, 3) := by decide +kernel
theorem dX8_readAll_79 : decode cX8_readAll 79 = .ok (.iload_n 1, 1) := by decide +kernel
theorem dX8_readAll_80 : decode cX8_readAll 80 = .ok (.ireturn, 1) := by decide +kernel
theorem dX8_readAll_81 : decode cX8_readAll 81 = .ok (.goto (-72), 3) := by decide +kernel
theorem dX8_readAll_84 : decode cX8_readAll 84 = .ok (.bipush (-4), 2) := by decide +kernel
theorem dX8_readAll_86 : decode cX8_readAll 86 = .ok (.ireturn, 1) := by decide +kernel
theorem dX8_fault_0 : decode cX8_fault 0 = .ok (.aload_n 0, 1) := by decide +kernel
theorem dX8_fault_1 : decode cX8_fault 1 = .ok (.invokevirtual 144, 3) := by decide +kernel
theorem dX8_fault_4 : decode cX8_fault 4 = .ok (.ireturn, 1) := by decide +kernel
theorem dX8_lay_0 : decode cX8_lay 0 = .ok (.aload_n 0, 1) := by decide +kernel
theorem dX8_lay_1 : decode cX8_lay 1 = .ok (.invokevirtual 144, 3) := by decide +kernel
theorem dX8_lay_4 : decode cX8_lay 4 = .ok (.bipush (-4), 2) := by decide +kernel
theorem dX8_lay_6 : decode cX8_lay 6 = .ok (.if_icmp .ne 11, 3) := by decide +kernel
theorem dX8_lay_9 : decode cX8_lay 9 = .ok (.aload_n 0, 1) := by decide +kernel
theorem dX8_lay_10 : decode cX8_lay 10 = .ok (.getfield 91, 3) := by decide +kernel
theorem dX8_lay_13 : decode cX8_lay 13 = .ok (.iconst 2, 1) := by decide +kernel
theorem dX8_lay_14 : decode cX8_lay 14 = .ok (.if_icmp .ge 6, 3) := by decide +kernel
theorem dX8_lay_17 : decode cX8_lay 17 = .ok (.bipush (-2), 2) := by decide +kernel
theorem dX8_lay_19 : decode cX8_lay 19 = .ok (.ireturn, 1) := by decide +kernel
theorem dX8_lay_20 : decode cX8_lay 20 = .ok (.aload_n 0, 1) := by decide +kernel
theorem dX8_lay_21 : decode cX8_lay 21 = .ok (.invokevirtual 88, 3) := by decide +kernel
theorem dX8_lay_24 : decode cX8_lay 24 = .ok (.aload_n 0, 1) := by decide +kernel
theorem dX8_lay_25 : decode cX8_lay 25 = .ok (.getfield 148, 3) := by decide +kernel
theorem dX8_lay_28 : decode cX8_lay 28 = .ok (.ireturn, 1) := by decide +kernel
theorem dX8_begin_0 : decode cX8_begin 0 = .ok (.aload_n 0, 1) := by decide +kernel
theorem dX8_begin_1 : decode cX8_begin 1 = .ok (.aload_n 0, 1) := by decide +kernel
theorem dX8_begin_2 : decode cX8_begin 2 = .ok (.getfield 91, 3) := by decide +kernel
theorem dX8_begin_5 : decode cX8_begin 5 = .ok (.putfield 148, 3) := by decide +kernel
theorem dX8_begin_8 : decode cX8_begin 8 = .ok (.aload_n 0, 1) := by decide +kernel
theorem dX8_begin_9 : decode cX8_begin 9 = .ok (.aload_n 0, 1) := by decide +kernel
theorem dX8_begin_10 : decode cX8_begin 10 = .ok (.getfield 71, 3) := by decide +kernel
theorem dX8_begin_13 : decode cX8_begin 13 = .ok (.putfield 151, 3) := by decide +kernel
theorem dX8_begin_16 : decode cX8_begin 16 = .ok (.iconst 0, 1) := by decide +kernel
theorem dX8_begin_17 : decode cX8_begin 17 = .ok (.istore_n 1, 1) := by decide +kernel
theorem dX8_begin_18 : decode cX8_begin 18 = .ok (.iload_n 1, 1) := by decide +kernel
theorem dX8_begin_19 : decode cX8_begin 19 = .ok (.bipush 6, 2) := by decide +kernel
theorem dX8_begin_21 : decode cX8_begin 21 = .ok (.if_icmp .ge 33, 3) := by decide +kernel
theorem dX8_begin_24 : decode cX8_begin 24 = .ok (.aload_n 0, 1) := by decide +kernel
theorem dX8_begin_25 : decode cX8_begin 25 = .ok (.getfield 13, 3) := by decide +kernel
theorem dX8_begin_28 : decode cX8_begin 28 = .ok (.iload_n 1, 1) := by decide +kernel
theorem dX8_begin_29 : decode cX8_begin 29 = .ok (.aload_n 0, 1) := by decide +kernel
theorem dX8_begin_30 : decode cX8_begin 30 = .ok (.getfield 22, 3) := by decide +kernel
theorem dX8_begin_33 : decode cX8_begin 33 = .ok (.iload_n 1, 1) := by decide +kernel
theorem dX8_begin_34 : decode cX8_begin 34 = .ok (.iaload, 1) := by decide +kernel
theorem dX8_begin_35 : decode cX8_begin 35 = .ok (.iastore, 1) := by decide +kernel
theorem dX8_begin_36 : decode cX8_begin 36 = .ok (.aload_n 0, 1) := by decide +kernel
theorem dX8_begin_37 : decode cX8_begin 37 = .ok (.getfield 16, 3) := by decide +kernel
theorem dX8_begin_40 : decode cX8_begin 40 = .ok (.iload_n 1, 1) := by decide +kernel
theorem dX8_begin_41 : decode cX8_begin 41 = .ok (.aload_n 0, 1) := by decide +kernel
theorem dX8_begin_42 : decode cX8_begin 42 = .ok (.getfield 25, 3) := by decide +kernel
theorem dX8_begin_45 : decode cX8_begin 45 = .ok (.iload_n 1, 1) := by decide +kernel
theorem dX8_begin_46 : decode cX8_begin 46 = .ok (.iaload, 1) := by decide +kernel
theorem dX8_begin_47 : decode cX8_begin 47 = .ok (.iastore, 1) := by decide +kernel
theorem dX8_begin_48 : decode cX8_begin 48 = .ok (.iinc 1 1, 3) := by decide +kernel
theorem dX8_begin_51 : decode cX8_begin 51 = .ok (.goto (-33), 3) := by decide +kernel
theorem dX8_begin_54 : decode cX8_begin 54 = .ok (.iconst 0, 1) := by decide +kernel
theorem dX8_begin_55 : decode cX8_begin 55 = .ok (.istore_n 1, 1) := by decide +kernel
theorem dX8_begin_56 : decode cX8_begin 56 = .ok (.iload_n 1, 1) := by decide +kernel
theorem dX8_begin_57 : decode cX8_begin 57 = .ok (.bipush 102, 2) := by decide +kernel
theorem dX8_begin_59 : decode cX8_begin 59 = .ok (.if_icmp .ge 21, 3) := by decide +kernel
theorem dX8_begin_62 : decode cX8_begin 62 = .ok (.aload_n 0, 1) := by decide +kernel
theorem dX8_begin_63 : decode cX8_begin 63 = .ok (.getfield 19, 3) := by decide +kernel
theorem dX8_begin_66 : decode cX8_begin 66 = .ok (.iload_n 1, 1) := by decide +kernel
theorem dX8_begin_67 : decode cX8_begin 67 = .ok (.aload_n 0, 1) := by decide +kernel
theorem dX8_begin_68 : decode cX8_begin 68 = .ok (.getfield 28, 3) := by decide +kernel
theorem dX8_begin_71 : decode cX8_begin 71 = .ok (.iload_n 1, 1) := by decide +kernel
theorem dX8_begin_72 : decode cX8_begin 72 = .ok (.iaload, 1) := by decide +kernel
theorem dX8_begin_73 : decode cX8_begin 73 = .ok (.iastore, 1) := by decide +kernel
theorem dX8_begin_74 : decode cX8_begin 74 = .ok (.iinc 1 1, 3) := by decide +kernel
theorem dX8_begin_77 : decode cX8_begin 77 = .ok (.goto (-21), 3) := by decide +kernel
theorem dX8_begin_80 : decode cX8_begin 80 = .ok (.aload_n 0, 1) := by decide +kernel
theorem dX8_begin_81 : decode cX8_begin 81 = .ok (.iconst 0, 1) := by decide +kernel
theorem dX8_begin_82 : decode cX8_begin 82 = .ok (.putfield 154, 3) := by decide +kernel
theorem dX8_begin_85 : decode cX8_begin 85 = .ok (.aload_n 0, 1) := by decide +kernel
theorem dX8_begin_86 : decode cX8_begin 86 = .ok (.iconst 0, 1) := by decide +kernel
theorem dX8_begin_87 : decode cX8_begin 87 = .ok (.putfield 157, 3) := by decide +kernel
theorem dX8_begin_90 : decode cX8_begin 90 = .ok (.return_, 1) := by decide +kernel
theorem dX8_isStation_0 : decode cX8_isStation 0 = .ok (.iload_n 1, 1) := by decide +kernel
theorem dX8_isStation_1 : decode cX8_isStation 1 = .ok (.i2l, 1) := by decide +kernel
theorem dX8_isStation_2 : decode cX8_isStation 2 = .ok (.lconst 0, 1) := by decide +kernel
theorem dX8_isStation_3 : decode cX8_isStation 3 = .ok (.aload_n 0, 1) := by decide +kernel
theorem dX8_isStation_4 : decode cX8_isStation 4 = .ok (.getfield 148, 3) := by decide +kernel
theorem dX8_isStation_7 : decode cX8_isStation 7 = .ok (.iconst 1, 1) := by decide +kernel
theorem dX8_isStation_8 : decode cX8_isStation 8 = .ok (.isub, 1) := by decide +kernel
theorem dX8_isStation_9 : decode cX8_isStation 9 = .ok (.i2l, 1) := by decide +kernel
theorem dX8_isStation_10 : decode cX8_isStation 10 = .ok (.invokestatic 98, 3) := by decide +kernel
theorem dX8_isStation_13 : decode cX8_isStation 13 = .ok (.ireturn, 1) := by decide +kernel
theorem dX8_isYear_0 : decode cX8_isYear 0 = .ok (.iload_n 1, 1) := by decide +kernel
theorem dX8_isYear_1 : decode cX8_isYear 1 = .ok (.i2l, 1) := by decide +kernel
theorem dX8_isYear_2 : decode cX8_isYear 2 = .ok (.lconst 0, 1) := by decide +kernel
theorem dX8_isYear_3 : decode cX8_isYear 3 = .ok (.aload_n 0, 1) := by decide +kernel
theorem dX8_isYear_4 : decode cX8_isYear 4 = .ok (.getfield 151, 3) := by decide +kernel
theorem dX8_isYear_7 : decode cX8_isYear 7 = .ok (.iconst 1, 1) := by decide +kernel
theorem dX8_isYear_8 : decode cX8_isYear 8 = .ok (.isub, 1) := by decide +kernel
theorem dX8_isYear_9 : decode cX8_isYear 9 = .ok (.i2l, 1) := by decide +kernel
theorem dX8_isYear_10 : decode cX8_isYear 10 = .ok (.invokestatic 98, 3) := by decide +kernel
theorem dX8_isYear_13 : decode cX8_isYear 13 = .ok (.ireturn, 1) := by decide +kernel
theorem dX8_areTwo_0 : decode cX8_areTwo 0 = .ok (.aload_n 0, 1) := by decide +kernel
theorem dX8_areTwo_1 : decode cX8_areTwo 1 = .ok (.iload_n 1, 1) := by decide +kernel
theorem dX8_areTwo_2 : decode cX8_areTwo 2 = .ok (.invokevirtual 161, 3) := by decide +kernel
theorem dX8_areTwo_5 : decode cX8_areTwo 5 = .ok (.ifCond .eq 20, 3) := by decide +kernel
theorem dX8_areTwo_8 : decode cX8_areTwo 8 = .ok (.aload_n 0, 1) := by decide +kernel
theorem dX8_areTwo_9 : decode cX8_areTwo 9 = .ok (.iload_n 2, 1) := by decide +kernel
theorem dX8_areTwo_10 : decode cX8_areTwo 10 = .ok (.invokevirtual 161, 3) := by decide +kernel
theorem dX8_areTwo_13 : decode cX8_areTwo 13 = .ok (.ifCond .eq 12, 3) := by decide +kernel
theorem dX8_areTwo_16 : decode cX8_areTwo 16 = .ok (.iload_n 1, 1) := by decide +kernel
theorem dX8_areTwo_17 : decode cX8_areTwo 17 = .ok (.iload_n 2, 1) := by decide +kernel
theorem dX8_areTwo_18 : decode cX8_areTwo 18 = .ok (.if_icmp .eq 7, 3) := by decide +kernel
theorem dX8_areTwo_21 : decode cX8_areTwo 21 = .ok (.iconst 1, 1) := by decide +kernel
theorem dX8_areTwo_22 : decode cX8_areTwo 22 = .ok (.goto 4, 3) := by decide +kernel
theorem dX8_areTwo_25 : decode cX8_areTwo 25 = .ok (.iconst 0, 1) := by decide +kernel
theorem dX8_areTwo_26 : decode cX8_areTwo 26 = .ok (.ireturn, 1) := by decide +kernel
theorem dX8_valueOf_0 : decode cX8_valueOf 0 = .ok (.aload_n 0, 1) := by decide +kernel
theorem dX8_valueOf_1 : decode cX8_valueOf 1 = .ok (.getfield 19, 3) := by decide +kernel
theorem dX8_valueOf_4 : decode cX8_valueOf 4 = .ok (.bipush 16, 2) := by decide +kernel
theorem dX8_valueOf_6 : decode cX8_valueOf 6 = .ok (.iload_n 1, 1) := by decide +kernel
theorem dX8_valueOf_7 : decode cX8_valueOf 7 = .ok (.imul, 1) := by decide +kernel
theorem dX8_valueOf_8 : decode cX8_valueOf 8 = .ok (.iload_n 2, 1) := by decide +kernel
theorem dX8_valueOf_9 : decode cX8_valueOf 9 = .ok (.iadd, 1) := by decide +kernel
theorem dX8_valueOf_10 : decode cX8_valueOf 10 = .ok (.iaload, 1) := by decide +kernel
theorem dX8_valueOf_11 : decode cX8_valueOf 11 = .ok (.ireturn, 1) := by decide +kernel
theorem dX8_isThere_0 : decode cX8_isThere 0 = .ok (.aload_n 0, 1) := by decide +kernel
theorem dX8_isThere_1 : decode cX8_isThere 1 = .ok (.iload_n 1, 1) := by decide +kernel
theorem dX8_isThere_2 : decode cX8_isThere 2 = .ok (.iload_n 2, 1) := by decide +kernel
theorem dX8_isThere_3 : decode cX8_isThere 3 = .ok (.invokevirtual 164, 3) := by decide +kernel
theorem dX8_isThere_6 : decode cX8_isThere 6 = .ok (.ldc 83, 2) := by decide +kernel
theorem dX8_isThere_8 : decode cX8_isThere 8 = .ok (.if_icmp .eq 7, 3) := by decide +kernel
theorem dX8_isThere_11 : decode cX8_isThere 11 = .ok (.iconst 1, 1) := by decide +kernel
theorem dX8_isThere_12 : decode cX8_isThere 12 = .ok (.goto 4, 3) := by decide +kernel
theorem dX8_isThere_15 : decode cX8_isThere 15 = .ok (.iconst 0, 1) := by decide +kernel
theorem dX8_isThere_16 : decode cX8_isThere 16 = .ok (.ireturn, 1) := by decide +kernel
theorem dX8_told_0 : decode cX8_told 0 = .ok (.iload_n 0, 1) := by decide +kernel
theorem dX8_told_1 : decode cX8_told 1 = .ok (.ldc 83, 2) := by decide +kernel
theorem dX8_told_3 : decode cX8_told 3 = .ok (.if_icmp .ne 8, 3) := by decide +kernel
theorem dX8_told_6 : decode cX8_told 6 = .ok (.bipush (-4), 2) := by decide +kernel
theorem dX8_told_8 : decode cX8_told 8 = .ok (.goto 7, 3) := by decide +kernel
theorem dX8_told_11 : decode cX8_told 11 = .ok (.iload_n 0, 1) := by decide +kernel
theorem dX8_told_12 : decode cX8_told 12 = .ok (.ldc 167, 2) := by decide +kernel
theorem dX8_told_14 : decode cX8_told 14 = .ok (.iadd, 1) := by decide +kernel
theorem dX8_told_15 : decode cX8_told 15 = .ok (.ireturn, 1) := by decide +kernel
theorem dX8_note_0 : decode cX8_note 0 = .ok (.aload_n 0, 1) := by decide +kernel
theorem dX8_note_1 : decode cX8_note 1 = .ok (.getfield 154, 3) := by decide +kernel
theorem dX8_note_4 : decode cX8_note 4 = .ok (.bipush 8, 2) := by decide +kernel
theorem dX8_note_6 : decode cX8_note 6 = .ok (.if_icmp .ne 43, 3) := by decide +kernel
theorem dX8_note_9 : decode cX8_note 9 = .ok (.iconst 0, 1) := by decide +kernel
theorem dX8_note_10 : decode cX8_note 10 = .ok (.istore_n 1, 1) := by decide +kernel
theorem dX8_note_11 : decode cX8_note 11 = .ok (.iload_n 1, 1) := by decide +kernel
theorem dX8_note_12 : decode cX8_note 12 = .ok (.sipush 714, 3) := by decide +kernel
theorem dX8_note_15 : decode cX8_note 15 = .ok (.if_icmp .ge 24, 3) := by decide +kernel
theorem dX8_note_18 : decode cX8_note 18 = .ok (.aload_n 0, 1) := by decide +kernel
theorem dX8_note_19 : decode cX8_note 19 = .ok (.getfield 31, 3) := by decide +kernel
theorem dX8_note_22 : decode cX8_note 22 = .ok (.iload_n 1, 1) := by decide +kernel
theorem dX8_note_23 : decode cX8_note 23 = .ok (.aload_n 0, 1) := by decide +kernel
theorem dX8_note_24 : decode cX8_note 24 = .ok (.getfield 31, 3) := by decide +kernel
theorem dX8_note_27 : decode cX8_note 27 = .ok (.bipush 102, 2) := by decide +kernel
theorem dX8_note_29 : decode cX8_note 29 = .ok (.iload_n 1, 1) := by decide +kernel
theorem dX8_note_30 : decode cX8_note 30 = .ok (.iadd, 1) := by decide +kernel
theorem dX8_note_31 : decode cX8_note 31 = .ok (.iaload, 1) := by decide +kernel
theorem dX8_note_32 : decode cX8_note 32 = .ok (.iastore, 1) := by decide +kernel
theorem dX8_note_33 : decode cX8_note 33 = .ok (.iinc 1 1, 3) := by decide +kernel
theorem dX8_note_36 : decode cX8_note 36 = .ok (.goto (-25), 3) := by decide +kernel
theorem dX8_note_39 : decode cX8_note 39 = .ok (.aload_n 0, 1) := by decide +kernel
theorem dX8_note_40 : decode cX8_note 40 = .ok (.dup, 1) := by decide +kernel
theorem dX8_note_41 : decode cX8_note 41 = .ok (.getfield 154, 3) := by decide +kernel
theorem dX8_note_44 : decode cX8_note 44 = .ok (.iconst 1, 1) := by decide +kernel
theorem dX8_note_45 : decode cX8_note 45 = .ok (.isub, 1) := by decide +kernel
theorem dX8_note_46 : decode cX8_note 46 = .ok (.putfield 154, 3) := by decide +kernel
theorem dX8_note_49 : decode cX8_note 49 = .ok (.iconst 0, 1) := by decide +kernel
theorem dX8_note_50 : decode cX8_note 50 = .ok (.istore_n 1, 1) := by decide +kernel
theorem dX8_note_51 : decode cX8_note 51 = .ok (.iload_n 1, 1) := by decide +kernel
theorem dX8_note_52 : decode cX8_note 52 = .ok (.bipush 102, 2) := by decide +kernel
theorem dX8_note_54 : decode cX8_note 54 = .ok (.if_icmp .ge 29, 3) := by decide +kernel
theorem dX8_note_57 : decode cX8_note 57 = .ok (.aload_n 0, 1) := by decide +kernel
theorem dX8_note_58 : decode cX8_note 58 = .ok (.getfield 31, 3) := by decide +kernel
theorem dX8_note_61 : decode cX8_note 61 = .ok (.bipush 102, 2) := by decide +kernel
theorem dX8_note_63 : decode cX8_note 63 = .ok (.aload_n 0, 1) := by decide +kernel
theorem dX8_note_64 : decode cX8_note 64 = .ok (.getfield 154, 3) := by decide +kernel
theorem dX8_note_67 : decode cX8_note 67 = .ok (.imul, 1) := by decide +kernel
theorem dX8_note_68 : decode cX8_note 68 = .ok (.iload_n 1, 1) := by decide +kernel
theorem dX8_note_69 : decode cX8_note 69 = .ok (.iadd, 1) := by decide +kernel
theorem dX8_note_70 : decode cX8_note 70 = .ok (.aload_n 0, 1) := by decide +kernel
theorem dX8_note_71 : decode cX8_note 71 = .ok (.getfield 19, 3) := by decide +kernel
theorem dX8_note_74 : decode cX8_note 74 = .ok (.iload_n 1, 1) := by decide +kernel
theorem dX8_note_75 : decode cX8_note 75 = .ok (.iaload, 1) := by decide +kernel
theorem dX8_note_76 : decode cX8_note 76 = .ok (.iastore, 1) := by decide +kernel
theorem dX8_note_77 : decode cX8_note 77 = .ok (.iinc 1 1, 3) := by decide +kernel
theorem dX8_note_80 : decode cX8_note 80 = .ok (.goto (-29), 3) := by decide +kernel
theorem dX8_note_83 : decode cX8_note 83 = .ok (.aload_n 0, 1) := by decide +kernel
theorem dX8_note_84 : decode cX8_note 84 = .ok (.dup, 1) := by decide +kernel
theorem dX8_note_85 : decode cX8_note 85 = .ok (.getfield 154, 3) := by decide +kernel
theorem dX8_note_88 : decode cX8_note 88 = .ok (.iconst 1, 1) := by decide +kernel
theorem dX8_note_89 : decode cX8_note 89 = .ok (.iadd, 1) := by decide +kernel
theorem dX8_note_90 : decode cX8_note 90 = .ok (.putfield 154, 3) := by decide +kernel
theorem dX8_note_93 : decode cX8_note 93 = .ok (.aload_n 0, 1) := by decide +kernel
theorem dX8_note_94 : decode cX8_note 94 = .ok (.iconst 0, 1) := by decide +kernel
theorem dX8_note_95 : decode cX8_note 95 = .ok (.putfield 157, 3) := by decide +kernel
theorem dX8_note_98 : decode cX8_note 98 = .ok (.return_, 1) := by decide +kernel
theorem dX8_change_0 : decode cX8_change 0 = .ok (.aload_n 0, 1) := by decide +kernel
theorem dX8_change_1 : decode cX8_change 1 = .ok (.getfield 19, 3) := by decide +kernel
theorem dX8_change_4 : decode cX8_change 4 = .ok (.iload_n 1, 1) := by decide +kernel
theorem dX8_change_5 : decode cX8_change 5 = .ok (.iaload, 1) := by decide +kernel
theorem dX8_change_6 : decode cX8_change 6 = .ok (.istore_n 3, 1) := by decide +kernel
theorem dX8_change_7 : decode cX8_change 7 = .ok (.aload_n 0, 1) := by decide +kernel
theorem dX8_change_8 : decode cX8_change 8 = .ok (.invokevirtual 168, 3) := by decide +kernel
theorem dX8_change_11 : decode cX8_change 11 = .ok (.aload_n 0, 1) := by decide +kernel
theorem dX8_change_12 : decode cX8_change 12 = .ok (.getfield 19, 3) := by decide +kernel
theorem dX8_change_15 : decode cX8_change 15 = .ok (.iload_n 1, 1) := by decide +kernel
theorem dX8_change_16 : decode cX8_change 16 = .ok (.iload_n 2, 1) := by decide +kernel
theorem dX8_change_17 : decode cX8_change 17 = .ok (.iastore, 1) := by decide +kernel
theorem dX8_change_18 : decode cX8_change 18 = .ok (.iload_n 3, 1) := by decide +kernel
theorem dX8_change_19 : decode cX8_change 19 = .ok (.ireturn, 1) := by decide +kernel
theorem dX8_value_0 : decode cX8_value 0 = .ok (.aload_n 0, 1) := by decide +kernel
theorem dX8_value_1 : decode cX8_value 1 = .ok (.iload_n 1, 1) := by decide +kernel
theorem dX8_value_2 : decode cX8_value 2 = .ok (.invokevirtual 161, 3) := by decide +kernel
theorem dX8_value_5 : decode cX8_value 5 = .ok (.ifCond .eq 23, 3) := by decide +kernel
theorem dX8_value_8 : decode cX8_value 8 = .ok (.aload_n 0, 1) := by decide +kernel
theorem dX8_value_9 : decode cX8_value 9 = .ok (.iload_n 2, 1) := by decide +kernel
theorem dX8_value_10 : decode cX8_value 10 = .ok (.invokevirtual 171, 3) := by decide +kernel
theorem dX8_value_13 : decode cX8_value 13 = .ok (.ifCond .eq 15, 3) := by decide +kernel
theorem dX8_value_16 : decode cX8_value 16 = .ok (.aload_n 0, 1) := by decide +kernel
theorem dX8_value_17 : decode cX8_value 17 = .ok (.iload_n 1, 1) := by decide +kernel
theorem dX8_value_18 : decode cX8_value 18 = .ok (.iload_n 2, 1) := by decide +kernel
theorem dX8_value_19 : decode cX8_value 19 = .ok (.invokevirtual 164, 3) := by decide +kernel
theorem dX8_value_22 : decode cX8_value 22 = .ok (.invokestatic 174, 3) := by decide +kernel
theorem dX8_value_25 : decode cX8_value 25 = .ok (.goto 4, 3) := by decide +kernel
theorem dX8_value_28 : decode cX8_value 28 = .ok (.iconst (-1), 1) := by decide +kernel
theorem dX8_value_29 : decode cX8_value 29 = .ok (.ireturn, 1) := by decide +kernel
theorem dX8_set_0 : decode cX8_set 0 = .ok (.aload_n 0, 1) := by decide +kernel
theorem dX8_set_1 : decode cX8_set 1 = .ok (.iload_n 1, 1) := by decide +kernel
theorem dX8_set_2 : decode cX8_set 2 = .ok (.invokevirtual 161, 3) := by decide +kernel
theorem dX8_set_5 : decode cX8_set 5 = .ok (.ifCond .eq 25, 3) := by decide +kernel
theorem dX8_set_8 : decode cX8_set 8 = .ok (.aload_n 0, 1) := by decide +kernel
theorem dX8_set_9 : decode cX8_set 9 = .ok (.iload_n 2, 1) := by decide +kernel
theorem dX8_set_10 : decode cX8_set 10 = .ok (.invokevirtual 171, 3) := by decide +kernel
theorem dX8_set_13 : decode cX8_set 13 = .ok (.ifCond .eq 17, 3) := by decide +kernel
theorem dX8_set_16 : decode cX8_set 16 = .ok (.iload_n 3, 1) := by decide +kernel
theorem dX8_set_17 : decode cX8_set 17 = .ok (.i2l, 1) := by decide +kernel
theorem dX8_set_18 : decode cX8_set 18 = .ok (.ldc2_w 177, 3) := by decide +kernel
theorem dX8_set_21 : decode cX8_set 21 = .ok (.ldc2_w 179, 3) := by decide +kernel
theorem dX8_set_24 : decode cX8_set 24 = .ok (.invokestatic 98, 3) := by decide +kernel
theorem dX8_set_27 : decode cX8_set 27 = .ok (.ifCond .ne 5, 3) := by decide +kernel
theorem dX8_set_30 : decode cX8_set 30 = .ok (.iconst (-1), 1) := by decide +kernel
theorem dX8_set_31 : decode cX8_set 31 = .ok (.ireturn, 1) := by decide +kernel
theorem dX8_set_32 : decode cX8_set 32 = .ok (.aload_n 0, 1) := by decide +kernel
theorem dX8_set_33 : decode cX8_set 33 = .ok (.iload_n 1, 1) := by decide +kernel
theorem dX8_set_34 : decode cX8_set 34 = .ok (.iload_n 2, 1) := by decide +kernel
theorem dX8_set_35 : decode cX8_set 35 = .ok (.invokevirtual 164, 3) := by decide +kernel
theorem dX8_set_38 : decode cX8_set 38 = .ok (.iload_n 3, 1) := by decide +kernel
theorem dX8_set_39 : decode cX8_set 39 = .ok (.if_icmp .ne 8, 3) := by decide +kernel
theorem dX8_set_42 : decode cX8_set 42 = .ok (.bipush (-2), 2) := by decide +kernel
theorem dX8_set_44 : decode cX8_set 44 = .ok (.goto 17, 3) := by decide +kernel
theorem dX8_set_47 : decode cX8_set 47 = .ok (.aload_n 0, 1) := by decide +kernel
theorem dX8_set_48 : decode cX8_set 48 = .ok (.bipush 16, 2) := by decide +kernel
theorem dX8_set_50 : decode cX8_set 50 = .ok (.iload_n 1, 1) := by decide +kernel
theorem dX8_set_51 : decode cX8_set 51 = .ok (.imul, 1) := by decide +kernel
theorem dX8_set_52 : decode cX8_set 52 = .ok (.iload_n 2, 1) := by decide +kernel
theorem dX8_set_53 : decode cX8_set 53 = .ok (.iadd, 1) := by decide +kernel
theorem dX8_set_54 : decode cX8_set 54 = .ok (.iload_n 3, 1) := by decide +kernel
theorem dX8_set_55 : decode cX8_set 55 = .ok (.invokevirtual 181, 3) := by decide +kernel
theorem dX8_set_58 : decode cX8_set 58 = .ok (.invokestatic 174, 3) := by decide +kernel
theorem dX8_set_61 : decode cX8_set 61 = .ok (.ireturn, 1) := by decide +kernel
theorem dX8_lose_0 : decode cX8_lose 0 = .ok (.aload_n 0, 1) := by decide +kernel
theorem dX8_lose_1 : decode cX8_lose 1 = .ok (.iload_n 1, 1) := by decide +kernel
theorem dX8_lose_2 : decode cX8_lose 2 = .ok (.invokevirtual 161, 3) := by decide +kernel
theorem dX8_lose_5 : decode cX8_lose 5 = .ok (.ifCond .eq 11, 3) := by decide +kernel
theorem dX8_lose_8 : decode cX8_lose 8 = .ok (.aload_n 0, 1) := by decide +kernel
theorem dX8_lose_9 : decode cX8_lose 9 = .ok (.iload_n 2, 1) := by decide +kernel
theorem dX8_lose_10 : decode cX8_lose 10 = .ok (.invokevirtual 171, 3) := by decide +kernel
theorem dX8_lose_13 : decode cX8_lose 13 = .ok (.ifCond .ne 5, 3) := by decide +kernel
theorem dX8_lose_16 : decode cX8_lose 16 = .ok (.iconst (-1), 1) := by decide +kernel
theorem dX8_lose_17 : decode cX8_lose 17 = .ok (.ireturn, 1) := by decide +kernel
theorem dX8_lose_18 : decode cX8_lose 18 = .ok (.aload_n 0, 1) := by decide +kernel
theorem dX8_lose_19 : decode cX8_lose 19 = .ok (.iload_n 1, 1) := by decide +kernel
theorem dX8_lose_20 : decode cX8_lose 20 = .ok (.iload_n 2, 1) := by decide +kernel
theorem dX8_lose_21 : decode cX8_lose 21 = .ok (.invokevirtual 184, 3) := by decide +kernel
theorem dX8_lose_24 : decode cX8_lose 24 = .ok (.ifCond .eq 21, 3) := by decide +kernel
theorem dX8_lose_27 : decode cX8_lose 27 = .ok (.aload_n 0, 1) := by decide +kernel
theorem dX8_lose_28 : decode cX8_lose 28 = .ok (.bipush 16, 2) := by decide +kernel
theorem dX8_lose_30 : decode cX8_lose 30 = .ok (.iload_n 1, 1) := by decide +kernel
theorem dX8_lose_31 : decode cX8_lose 31 = .ok (.imul, 1) := by decide +kernel
theorem dX8_lose_32 : decode cX8_lose 32 = .ok (.iload_n 2, 1) := by decide +kernel
theorem dX8_lose_33 : decode cX8_lose 33 = .ok (.iadd, 1) := by decide +kernel
theorem dX8_lose_34 : decode cX8_lose 34 = .ok (.ldc 83, 2) := by decide +kernel
theorem dX8_lose_36 : decode cX8_lose 36 = .ok (.invokevirtual 181, 3) := by decide +kernel
theorem dX8_lose_39 : decode cX8_lose 39 = .ok (.invokestatic 174, 3) := by decide +kernel
theorem dX8_lose_42 : decode cX8_lose 42 = .ok (.goto 5, 3) := by decide +kernel
theorem dX8_lose_45 : decode cX8_lose 45 = .ok (.bipush (-2), 2) := by decide +kernel
theorem dX8_lose_47 : decode cX8_lose 47 = .ok (.ireturn, 1) := by decide +kernel
theorem dX8_penalty_0 : decode cX8_penalty 0 = .ok (.iload_n 1, 1) := by decide +kernel
theorem dX8_penalty_1 : decode cX8_penalty 1 = .ok (.i2l, 1) := by decide +kernel
theorem dX8_penalty_2 : decode cX8_penalty 2 = .ok (.lconst 0, 1) := by decide +kernel
theorem dX8_penalty_3 : decode cX8_penalty 3 = .ok (.ldc2_w 188, 3) := by decide +kernel
theorem dX8_penalty_6 : decode cX8_penalty 6 = .ok (.invokestatic 98, 3) := by decide +kernel
theorem dX8_penalty_9 : decode cX8_penalty 9 = .ok (.ifCond .ne 5, 3) := by decide +kernel
theorem dX8_penalty_12 : decode cX8_penalty 12 = .ok (.iconst (-1), 1) := by decide +kernel
theorem dX8_penalty_13 : decode cX8_penalty 13 = .ok (.ireturn, 1) := by decide +kernel
theorem dX8_penalty_14 : decode cX8_penalty 14 = .ok (.aload_n 0, 1) := by decide +kernel
theorem dX8_penalty_15 : decode cX8_penalty 15 = .ok (.getfield 19, 3) := by decide +kernel
theorem dX8_penalty_18 : decode cX8_penalty 18 = .ok (.bipush 96, 2) := by decide +kernel
theorem dX8_penalty_20 : decode cX8_penalty 20 = .ok (.iaload, 1) := by decide +kernel
theorem dX8_penalty_21 : decode cX8_penalty 21 = .ok (.iload_n 1, 1) := by decide +kernel
theorem dX8_penalty_22 : decode cX8_penalty 22 = .ok (.if_icmp .ne 8, 3) := by decide +kernel
theorem dX8_penalty_25 : decode cX8_penalty 25 = .ok (.bipush (-2), 2) := by decide +kernel
theorem dX8_penalty_27 : decode cX8_penalty 27 = .ok (.goto 10, 3) := by decide +kernel
theorem dX8_penalty_30 : decode cX8_penalty 30 = .ok (.aload_n 0, 1) := by decide +kernel
theorem dX8_penalty_31 : decode cX8_penalty 31 = .ok (.bipush 96, 2) := by decide +kernel
theorem dX8_penalty_33 : decode cX8_penalty 33 = .ok (.iload_n 1, 1) := by decide +kernel
theorem dX8_penalty_34 : decode cX8_penalty 34 = .ok (.invokevirtual 181, 3) := by decide +kernel
theorem dX8_penalty_37 : decode cX8_penalty 37 = .ok (.ireturn, 1) := by decide +kernel
theorem dX8_rule_0 : decode cX8_rule 0 = .ok (.iload_n 1, 1) := by decide +kernel
theorem dX8_rule_1 : decode cX8_rule 1 = .ok (.ifCond .ne 15, 3) := by decide +kernel
theorem dX8_rule_4 : decode cX8_rule 4 = .ok (.iload_n 2, 1) := by decide +kernel
theorem dX8_rule_5 : decode cX8_rule 5 = .ok (.i2l, 1) := by decide +kernel
theorem dX8_rule_6 : decode cX8_rule 6 = .ok (.lconst 1, 1) := by decide +kernel
theorem dX8_rule_7 : decode cX8_rule 7 = .ok (.ldc2_w 190, 3) := by decide +kernel
theorem dX8_rule_10 : decode cX8_rule 10 = .ok (.invokestatic 98, 3) := by decide +kernel
theorem dX8_rule_13 : decode cX8_rule 13 = .ok (.goto 49, 3) := by decide +kernel
theorem dX8_rule_16 : decode cX8_rule 16 = .ok (.iload_n 1, 1) := by decide +kernel
theorem dX8_rule_17 : decode cX8_rule 17 = .ok (.i2l, 1) := by decide +kernel
theorem dX8_rule_18 : decode cX8_rule 18 = .ok (.lconst 1, 1) := by decide +kernel
theorem dX8_rule_19 : decode cX8_rule 19 = .ok (.ldc2_w 192, 3) := by decide +kernel
theorem dX8_rule_22 : decode cX8_rule 22 = .ok (.invokestatic 98, 3) := by decide +kernel
theorem dX8_rule_25 : decode cX8_rule 25 = .ok (.ifCond .eq 15, 3) := by decide +kernel
theorem dX8_rule_28 : decode cX8_rule 28 = .ok (.iload_n 2, 1) := by decide +kernel
theorem dX8_rule_29 : decode cX8_rule 29 = .ok (.i2l, 1) := by decide +kernel
theorem dX8_rule_30 : decode cX8_rule 30 = .ok (.lconst 1, 1) := by decide +kernel
theorem dX8_rule_31 : decode cX8_rule 31 = .ok (.ldc2_w 194, 3) := by decide +kernel
theorem dX8_rule_34 : decode cX8_rule 34 = .ok (.invokestatic 98, 3) := by decide +kernel
theorem dX8_rule_37 : decode cX8_rule 37 = .ok (.goto 25, 3) := by decide +kernel
theorem dX8_rule_40 : decode cX8_rule 40 = .ok (.iload_n 1, 1) := by decide +kernel
theorem dX8_rule_41 : decode cX8_rule 41 = .ok (.iconst 3, 1) := by decide +kernel
theorem dX8_rule_42 : decode cX8_rule 42 = .ok (.if_icmp .ne 19, 3) := by decide +kernel
theorem dX8_rule_45 : decode cX8_rule 45 = .ok (.iload_n 2, 1) := by decide +kernel
theorem dX8_rule_46 : decode cX8_rule 46 = .ok (.i2l, 1) := by decide +kernel
theorem dX8_rule_47 : decode cX8_rule 47 = .ok (.lconst 0, 1) := by decide +kernel
theorem dX8_rule_48 : decode cX8_rule 48 = .ok (.ldc2_w 192, 3) := by decide +kernel
theorem dX8_rule_51 : decode cX8_rule 51 = .ok (.invokestatic 98, 3) := by decide +kernel
theorem dX8_rule_54 : decode cX8_rule 54 = .ok (.ifCond .eq 7, 3) := by decide +kernel
theorem dX8_rule_57 : decode cX8_rule 57 = .ok (.iconst 1, 1) := by decide +kernel
theorem dX8_rule_58 : decode cX8_rule 58 = .ok (.goto 4, 3) := by decide +kernel
theorem dX8_rule_61 : decode cX8_rule 61 = .ok (.iconst 0, 1) := by decide +kernel
theorem dX8_rule_62 : decode cX8_rule 62 = .ok (.istore_n 3, 1) := by decide +kernel
theorem dX8_rule_63 : decode cX8_rule 63 = .ok (.iload_n 3, 1) := by decide +kernel
theorem dX8_rule_64 : decode cX8_rule 64 = .ok (.ifCond .ne 5, 3) := by decide +kernel
theorem dX8_rule_67 : decode cX8_rule 67 = .ok (.iconst (-1), 1) := by decide +kernel
theorem dX8_rule_68 : decode cX8_rule 68 = .ok (.ireturn, 1) := by decide +kernel
theorem dX8_rule_69 : decode cX8_rule 69 = .ok (.aload_n 0, 1) := by decide +kernel
theorem dX8_rule_70 : decode cX8_rule 70 = .ok (.getfield 19, 3) := by decide +kernel
theorem dX8_rule_73 : decode cX8_rule 73 = .ok (.bipush 97, 2) := by decide +kernel
theorem dX8_rule_75 : decode cX8_rule 75 = .ok (.iload_n 1, 1) := by decide +kernel
theorem dX8_rule_76 : decode cX8_rule 76 = .ok (.iadd, 1) := by decide +kernel
theorem dX8_rule_77 : decode cX8_rule 77 = .ok (.iaload, 1) := by decide +kernel
theorem dX8_rule_78 : decode cX8_rule 78 = .ok (.iload_n 2, 1) := by decide +kernel
theorem dX8_rule_79 : decode cX8_rule 79 = .ok (.if_icmp .ne 8, 3) := by decide +kernel
theorem dX8_rule_82 : decode cX8_rule 82 = .ok (.bipush (-2), 2) := by decide +kernel
theorem dX8_rule_84 : decode cX8_rule 84 = .ok (.goto 12, 3) := by decide +kernel
theorem dX8_rule_87 : decode cX8_rule 87 = .ok (.aload_n 0, 1) := by decide +kernel
theorem dX8_rule_88 : decode cX8_rule 88 = .ok (.bipush 97, 2) := by decide +kernel
theorem dX8_rule_90 : decode cX8_rule 90 = .ok (.iload_n 1, 1) := by decide +kernel
theorem dX8_rule_91 : decode cX8_rule 91 = .ok (.iadd, 1) := by decide +kernel
theorem dX8_rule_92 : decode cX8_rule 92 = .ok (.iload_n 2, 1) := by decide +kernel
theorem dX8_rule_93 : decode cX8_rule 93 = .ok (.invokevirtual 181, 3) := by decide +kernel
theorem dX8_rule_96 : decode cX8_rule 96 = .ok (.ireturn, 1) := by decide +kernel
theorem dX8_undo_0 : decode cX8_undo 0 = .ok (.aload_n 0, 1) := by decide +kernel
theorem dX8_undo_1 : decode cX8_undo 1 = .ok (.getfield 154, 3) := by decide +kernel
theorem dX8_undo_4 : decode cX8_undo 4 = .ok (.ifCond .ne 6, 3) := by decide +kernel
theorem dX8_undo_7 : decode cX8_undo 7 = .ok (.bipush (-2), 2) := by decide +kernel
theorem dX8_undo_9 : decode cX8_undo 9 = .ok (.ireturn, 1) := by decide +kernel
theorem dX8_undo_10 : decode cX8_undo 10 = .ok (.aload_n 0, 1) := by decide +kernel
theorem dX8_undo_11 : decode cX8_undo 11 = .ok (.dup, 1) := by decide +kernel
theorem dX8_undo_12 : decode cX8_undo 12 = .ok (.getfield 154, 3) := by decide +kernel
theorem dX8_undo_15 : decode cX8_undo 15 = .ok (.iconst 1, 1) := by decide +kernel
theorem dX8_undo_16 : decode cX8_undo 16 = .ok (.isub, 1) := by decide +kernel
theorem dX8_undo_17 : decode cX8_undo 17 = .ok (.putfield 154, 3) := by decide +kernel
theorem dX8_undo_20 : decode cX8_undo 20 = .ok (.iconst 0, 1) := by decide +kernel
theorem dX8_undo_21 : decode cX8_undo 21 = .ok (.istore_n 1, 1) := by decide +kernel
theorem dX8_undo_22 : decode cX8_undo 22 = .ok (.iload_n 1, 1) := by decide +kernel
theorem dX8_undo_23 : decode cX8_undo 23 = .ok (.bipush 102, 2) := by decide +kernel
theorem dX8_undo_25 : decode cX8_undo 25 = .ok (.if_icmp .ge 29, 3) := by decide +kernel
theorem dX8_undo_28 : decode cX8_undo 28 = .ok (.aload_n 0, 1) := by decide +kernel
theorem dX8_undo_29 : decode cX8_undo 29 = .ok (.getfield 19, 3) := by decide +kernel
theorem dX8_undo_32 : decode cX8_undo 32 = .ok (.iload_n 1, 1) := by decide +kernel
theorem dX8_undo_33 : decode cX8_undo 33 = .ok (.aload_n 0, 1) := by decide +kernel
theorem dX8_undo_34 : decode cX8_undo 34 = .ok (.getfield 31, 3) := by decide +kernel
theorem dX8_undo_37 : decode cX8_undo 37 = .ok (.bipush 102, 2) := by decide +kernel
theorem dX8_undo_39 : decode cX8_undo 39 = .ok (.aload_n 0, 1) := by decide +kernel
theorem dX8_undo_40 : decode cX8_undo 40 = .ok (.getfield 154, 3) := by decide +kernel
theorem dX8_undo_43 : decode cX8_undo 43 = .ok (.imul, 1) := by decide +kernel
theorem dX8_undo_44 : decode cX8_undo 44 = .ok (.iload_n 1, 1) := by decide +kernel
theorem dX8_undo_45 : decode cX8_undo 45 = .ok (.iadd, 1) := by decide +kernel
theorem dX8_undo_46 : decode cX8_undo 46 = .ok (.iaload, 1) := by decide +kernel
theorem dX8_undo_47 : decode cX8_undo 47 = .ok (.iastore, 1) := by decide +kernel
theorem dX8_undo_48 : decode cX8_undo 48 = .ok (.iinc 1 1, 3) := by decide +kernel
theorem dX8_undo_51 : decode cX8_undo 51 = .ok (.goto (-29), 3) := by decide +kernel
theorem dX8_undo_54 : decode cX8_undo 54 = .ok (.aload_n 0, 1) := by decide +kernel
theorem dX8_undo_55 : decode cX8_undo 55 = .ok (.iconst 0, 1) := by decide +kernel
theorem dX8_undo_56 : decode cX8_undo 56 = .ok (.putfield 157, 3) := by decide +kernel
theorem dX8_undo_59 : decode cX8_undo 59 = .ok (.aload_n 0, 1) := by decide +kernel
theorem dX8_undo_60 : decode cX8_undo 60 = .ok (.getfield 154, 3) := by decide +kernel
theorem dX8_undo_63 : decode cX8_undo 63 = .ok (.ireturn, 1) := by decide +kernel
theorem dX8_day_0 : decode cX8_day 0 = .ok (.iload_n 1, 1) := by decide +kernel
theorem dX8_day_1 : decode cX8_day 1 = .ok (.i2l, 1) := by decide +kernel
theorem dX8_day_2 : decode cX8_day 2 = .ok (.lconst 0, 1) := by decide +kernel
theorem dX8_day_3 : decode cX8_day 3 = .ok (.ldc2_w 179, 3) := by decide +kernel
theorem dX8_day_6 : decode cX8_day 6 = .ok (.invokestatic 98, 3) := by decide +kernel
theorem dX8_day_9 : decode cX8_day 9 = .ok (.ifCond .eq 15, 3) := by decide +kernel
theorem dX8_day_12 : decode cX8_day 12 = .ok (.iload_n 2, 1) := by decide +kernel
theorem dX8_day_13 : decode cX8_day 13 = .ok (.i2l, 1) := by decide +kernel
theorem dX8_day_14 : decode cX8_day 14 = .ok (.lconst 1, 1) := by decide +kernel
theorem dX8_day_15 : decode cX8_day 15 = .ok (.ldc2_w 196, 3) := by decide +kernel
theorem dX8_day_18 : decode cX8_day 18 = .ok (.invokestatic 98, 3) := by decide +kernel
theorem dX8_day_21 : decode cX8_day 21 = .ok (.ifCond .ne 5, 3) := by decide +kernel
theorem dX8_day_24 : decode cX8_day 24 = .ok (.iconst (-1), 1) := by decide +kernel
theorem dX8_day_25 : decode cX8_day 25 = .ok (.ireturn, 1) := by decide +kernel
theorem dX8_day_26 : decode cX8_day 26 = .ok (.iconst 0, 1) := by decide +kernel
theorem dX8_day_27 : decode cX8_day 27 = .ok (.istore_n 3, 1) := by decide +kernel
theorem dX8_day_28 : decode cX8_day 28 = .ok (.iconst 0, 1) := by decide +kernel
theorem dX8_day_29 : decode cX8_day 29 = .ok (.istore 4, 2) := by decide +kernel
theorem dX8_day_31 : decode cX8_day 31 = .ok (.iload 4, 2) := by decide +kernel
theorem dX8_day_33 : decode cX8_day 33 = .ok (.iload_n 2, 1) := by decide +kernel
theorem dX8_day_34 : decode cX8_day 34 = .ok (.if_icmp .ge 113, 3) := by decide +kernel
theorem dX8_day_37 : decode cX8_day 37 = .ok (.ldc2_w 198, 3) := by decide +kernel
theorem dX8_day_40 : decode cX8_day 40 = .ok (.iload_n 1, 1) := by decide +kernel
theorem dX8_day_41 : decode cX8_day 41 = .ok (.i2l, 1) := by decide +kernel
theorem dX8_day_42 : decode cX8_day 42 = .ok (.lmul, 1) := by decide +kernel
theorem dX8_day_43 : decode cX8_day 43 = .ok (.ldc2_w 200, 3) := by decide +kernel
theorem dX8_day_46 : decode cX8_day 46 = .ok (.iload 4, 2) := by decide +kernel
theorem dX8_day_48 : decode cX8_day 48 = .ok (.i2l, 1) := by decide +kernel
theorem dX8_day_49 : decode cX8_day 49 = .ok (.lmul, 1) := by decide +kernel
theorem dX8_day_50 : decode cX8_day 50 = .ok (.ladd, 1) := by decide +kernel
theorem dX8_day_51 : decode cX8_day 51 = .ok (.lconst 1, 1) := by decide +kernel
theorem dX8_day_52 : decode cX8_day 52 = .ok (.ladd, 1) := by decide +kernel
theorem dX8_day_53 : decode cX8_day 53 = .ok (.lstore 5, 2) := by decide +kernel
theorem dX8_day_55 : decode cX8_day 55 = .ok (.lload 5, 2) := by decide +kernel
theorem dX8_day_57 : decode cX8_day 57 = .ok (.lload 5, 2) := by decide +kernel
theorem dX8_day_59 : decode cX8_day 59 = .ok (.lmul, 1) := by decide +kernel
theorem dX8_day_60 : decode cX8_day 60 = .ok (.ldc2_w 202, 3) := by decide +kernel
theorem dX8_day_63 : decode cX8_day 63 = .ok (.lrem, 1) := by decide +kernel
theorem dX8_day_64 : decode cX8_day 64 = .ok (.l2i, 1) := by decide +kernel
theorem dX8_day_65 : decode cX8_day 65 = .ok (.istore 7, 2) := by decide +kernel
theorem dX8_day_67 : decode cX8_day 67 = .ok (.bipush 16, 2) := by decide +kernel
theorem dX8_day_69 : decode cX8_day 69 = .ok (.iload 7, 2) := by decide +kernel
theorem dX8_day_71 : decode cX8_day 71 = .ok (.aload_n 0, 1) := by decide +kernel
theorem dX8_day_72 : decode cX8_day 72 = .ok (.getfield 148, 3) := by decide +kernel
theorem dX8_day_75 : decode cX8_day 75 = .ok (.irem, 1) := by decide +kernel
theorem dX8_day_76 : decode cX8_day 76 = .ok (.imul, 1) := by decide +kernel
theorem dX8_day_77 : decode cX8_day 77 = .ok (.iload 7, 2) := by decide +kernel
theorem dX8_day_79 : decode cX8_day 79 = .ok (.bipush 8, 2) := by decide +kernel
theorem dX8_day_81 : decode cX8_day 81 = .ok (.idiv, 1) := by decide +kernel
theorem dX8_day_82 : decode cX8_day 82 = .ok (.aload_n 0, 1) := by decide +kernel
theorem dX8_day_83 : decode cX8_day 83 = .ok (.getfield 151, 3) := by decide +kernel
theorem dX8_day_86 : decode cX8_day 86 = .ok (.irem, 1) := by decide +kernel
theorem dX8_day_87 : decode cX8_day 87 = .ok (.iadd, 1) := by decide +kernel
theorem dX8_day_88 : decode cX8_day 88 = .ok (.istore 8, 2) := by decide +kernel
theorem dX8_day_90 : decode cX8_day 90 = .ok (.iload 7, 2) := by decide +kernel
theorem dX8_day_92 : decode cX8_day 92 = .ok (.sipush 128, 3) := by decide +kernel
theorem dX8_day_95 : decode cX8_day 95 = .ok (.idiv, 1) := by decide +kernel
theorem dX8_day_96 : decode cX8_day 96 = .ok (.bipush 30, 2) := by decide +kernel
theorem dX8_day_98 : decode cX8_day 98 = .ok (.irem, 1) := by decide +kernel
theorem dX8_day_99 : decode cX8_day 99 = .ok (.istore 9, 2) := by decide +kernel
theorem dX8_day_101 : decode cX8_day 101 = .ok (.iload 9, 2) := by decide +kernel
theorem dX8_day_103 : decode cX8_day 103 = .ok (.bipush 29, 2) := by decide +kernel
theorem dX8_day_105 : decode cX8_day 105 = .ok (.if_icmp .ne 8, 3) := by decide +kernel
theorem dX8_day_108 : decode cX8_day 108 = .ok (.ldc 83, 2) := by decide +kernel
theorem dX8_day_110 : decode cX8_day 110 = .ok (.goto 5, 3) := by decide +kernel
theorem dX8_day_113 : decode cX8_day 113 = .ok (.iload 9, 2) := by decide +kernel
theorem dX8_day_115 : decode cX8_day 115 = .ok (.istore 9, 2) := by decide +kernel
theorem dX8_day_117 : decode cX8_day 117 = .ok (.aload_n 0, 1) := by decide +kernel
theorem dX8_day_118 : decode cX8_day 118 = .ok (.getfield 19, 3) := by decide +kernel
theorem dX8_day_121 : decode cX8_day 121 = .ok (.iload 8, 2) := by decide +kernel
theorem dX8_day_123 : decode cX8_day 123 = .ok (.iaload, 1) := by decide +kernel
theorem dX8_day_124 : decode cX8_day 124 = .ok (.iload 9, 2) := by decide +kernel
theorem dX8_day_126 : decode cX8_day 126 = .ok (.if_icmp .eq 15, 3) := by decide +kernel
theorem dX8_day_129 : decode cX8_day 129 = .ok (.aload_n 0, 1) := by decide +kernel
theorem dX8_day_130 : decode cX8_day 130 = .ok (.iload 8, 2) := by decide +kernel
theorem dX8_day_132 : decode cX8_day 132 = .ok (.iload 9, 2) := by decide +kernel
theorem dX8_day_134 : decode cX8_day 134 = .ok (.invokevirtual 181, 3) := by decide +kernel
theorem dX8_day_137 : decode cX8_day 137 = .ok (.pop, 1) := by decide +kernel
theorem dX8_day_138 : decode cX8_day 138 = .ok (.iinc 3 1, 3) := by decide +kernel
theorem dX8_day_141 : decode cX8_day 141 = .ok (.iinc 4 1, 3) := by decide +kernel
theorem dX8_day_144 : decode cX8_day 144 = .ok (.goto (-113), 3) := by decide +kernel
theorem dX8_day_147 : decode cX8_day 147 = .ok (.iload_n 3, 1) := by decide +kernel
theorem dX8_day_148 : decode cX8_day 148 = .ok (.ireturn, 1) := by decide +kernel
theorem dX8_square_0 : decode cX8_square 0 = .ok (.aload_n 0, 1) := by decide +kernel
theorem dX8_square_1 : decode cX8_square 1 = .ok (.getfield 13, 3) := by decide +kernel
theorem dX8_square_4 : decode cX8_square 4 = .ok (.iload_n 1, 1) := by decide +kernel
theorem dX8_square_5 : decode cX8_square 5 = .ok (.iaload, 1) := by decide +kernel
theorem dX8_square_6 : decode cX8_square 6 = .ok (.aload_n 0, 1) := by decide +kernel
theorem dX8_square_7 : decode cX8_square 7 = .ok (.getfield 13, 3) := by decide +kernel
theorem dX8_square_10 : decode cX8_square 10 = .ok (.iload_n 2, 1) := by decide +kernel
theorem dX8_square_11 : decode cX8_square 11 = .ok (.iaload, 1) := by decide +kernel
theorem dX8_square_12 : decode cX8_square 12 = .ok (.isub, 1) := by decide +kernel
theorem dX8_square_13 : decode cX8_square 13 = .ok (.aload_n 0, 1) := by decide +kernel
theorem dX8_square_14 : decode cX8_square 14 = .ok (.getfield 13, 3) := by decide +kernel
theorem dX8_square_17 : decode cX8_square 17 = .ok (.iload_n 1, 1) := by decide +kernel
theorem dX8_square_18 : decode cX8_square 18 = .ok (.iaload, 1) := by decide +kernel
theorem dX8_square_19 : decode cX8_square 19 = .ok (.aload_n 0, 1) := by decide +kernel
theorem dX8_square_20 : decode cX8_square 20 = .ok (.getfield 13, 3) := by decide +kernel
theorem dX8_square_23 : decode cX8_square 23 = .ok (.iload_n 2, 1) := by decide +kernel
theorem dX8_square_24 : decode cX8_square 24 = .ok (.iaload, 1) := by decide +kernel
theorem dX8_square_25 : decode cX8_square 25 = .ok (.isub, 1) := by decide +kernel
theorem dX8_square_26 : decode cX8_square 26 = .ok (.imul, 1) := by decide +kernel
theorem dX8_square_27 : decode cX8_square 27 = .ok (.aload_n 0, 1) := by decide +kernel
theorem dX8_square_28 : decode cX8_square 28 = .ok (.getfield 16, 3) := by decide +kernel
theorem dX8_square_31 : decode cX8_square 31 = .ok (.iload_n 1, 1) := by decide +kernel
theorem dX8_square_32 : decode cX8_square 32 = .ok (.iaload, 1) := by decide +kernel
theorem dX8_square_33 : decode cX8_square 33 = .ok (.aload_n 0, 1) := by decide +kernel
theorem dX8_square_34 : decode cX8_square 34 = .ok (.getfield 16, 3) := by decide +kernel
theorem dX8_square_37 : decode cX8_square 37 = .ok (.iload_n 2, 1) := by decide +kernel
theorem dX8_square_38 : decode cX8_square 38 = .ok (.iaload, 1) := by decide +kernel
theorem dX8_square_39 : decode cX8_square 39 = .ok (.isub, 1) := by decide +kernel
theorem dX8_square_40 : decode cX8_square 40 = .ok (.aload_n 0, 1) := by decide +kernel
theorem dX8_square_41 : decode cX8_square 41 = .ok (.getfield 16, 3) := by decide +kernel
theorem dX8_square_44 : decode cX8_square 44 = .ok (.iload_n 1, 1) := by decide +kernel
theorem dX8_square_45 : decode cX8_square 45 = .ok (.iaload, 1) := by decide +kernel
theorem dX8_square_46 : decode cX8_square 46 = .ok (.aload_n 0, 1) := by decide +kernel
theorem dX8_square_47 : decode cX8_square 47 = .ok (.getfield 16, 3) := by decide +kernel
theorem dX8_square_50 : decode cX8_square 50 = .ok (.iload_n 2, 1) := by decide +kernel
theorem dX8_square_51 : decode cX8_square 51 = .ok (.iaload, 1) := by decide +kernel
theorem dX8_square_52 : decode cX8_square 52 = .ok (.isub, 1) := by decide +kernel
theorem dX8_square_53 : decode cX8_square 53 = .ok (.imul, 1) := by decide +kernel
theorem dX8_square_54 : decode cX8_square 54 = .ok (.iadd, 1) := by decide +kernel
theorem dX8_square_55 : decode cX8_square 55 = .ok (.ireturn, 1) := by decide +kernel
theorem dX8_rankOf_0 : decode cX8_rankOf 0 = .ok (.iconst 0, 1) := by decide +kernel
theorem dX8_rankOf_1 : decode cX8_rankOf 1 = .ok (.istore_n 3, 1) := by decide +kernel
theorem dX8_rankOf_2 : decode cX8_rankOf 2 = .ok (.iconst 0, 1) := by decide +kernel
theorem dX8_rankOf_3 : decode cX8_rankOf 3 = .ok (.istore 4, 2) := by decide +kernel
theorem dX8_rankOf_5 : decode cX8_rankOf 5 = .ok (.iload 4, 2) := by decide +kernel
theorem dX8_rankOf_7 : decode cX8_rankOf 7 = .ok (.aload_n 0, 1) := by decide +kernel
theorem dX8_rankOf_8 : decode cX8_rankOf 8 = .ok (.getfield 148, 3) := by decide +kernel
theorem dX8_rankOf_11 : decode cX8_rankOf 11 = .ok (.if_icmp .ge 79, 3) := by decide +kernel
theorem dX8_rankOf_14 : decode cX8_rankOf 14 = .ok (.aload_n 0, 1) := by decide +kernel
theorem dX8_rankOf_15 : decode cX8_rankOf 15 = .ok (.iload_n 1, 1) := by decide +kernel
theorem dX8_rankOf_16 : decode cX8_rankOf 16 = .ok (.iload 4, 2) := by decide +kernel
theorem dX8_rankOf_18 : decode cX8_rankOf 18 = .ok (.invokevirtual 204, 3) := by decide +kernel
theorem dX8_rankOf_21 : decode cX8_rankOf 21 = .ok (.aload_n 0, 1) := by decide +kernel
theorem dX8_rankOf_22 : decode cX8_rankOf 22 = .ok (.iload_n 1, 1) := by decide +kernel
theorem dX8_rankOf_23 : decode cX8_rankOf 23 = .ok (.iload_n 2, 1) := by decide +kernel
theorem dX8_rankOf_24 : decode cX8_rankOf 24 = .ok (.invokevirtual 204, 3) := by decide +kernel
theorem dX8_rankOf_27 : decode cX8_rankOf 27 = .ok (.if_icmp .lt 25, 3) := by decide +kernel
theorem dX8_rankOf_30 : decode cX8_rankOf 30 = .ok (.aload_n 0, 1) := by decide +kernel
theorem dX8_rankOf_31 : decode cX8_rankOf 31 = .ok (.iload_n 1, 1) := by decide +kernel
theorem dX8_rankOf_32 : decode cX8_rankOf 32 = .ok (.iload 4, 2) := by decide +kernel
theorem dX8_rankOf_34 : decode cX8_rankOf 34 = .ok (.invokevirtual 204, 3) := by decide +kernel
theorem dX8_rankOf_37 : decode cX8_rankOf 37 = .ok (.aload_n 0, 1) := by decide +kernel
theorem dX8_rankOf_38 : decode cX8_rankOf 38 = .ok (.iload_n 1, 1) := by decide +kernel
theorem dX8_rankOf_39 : decode cX8_rankOf 39 = .ok (.iload_n 2, 1) := by decide +kernel
theorem dX8_rankOf_40 : decode cX8_rankOf 40 = .ok (.invokevirtual 204, 3) := by decide +kernel
theorem dX8_rankOf_43 : decode cX8_rankOf 43 = .ok (.if_icmp .ne 13, 3) := by decide +kernel
theorem dX8_rankOf_46 : decode cX8_rankOf 46 = .ok (.iload 4, 2) := by decide +kernel
theorem dX8_rankOf_48 : decode cX8_rankOf 48 = .ok (.iload_n 2, 1) := by decide +kernel
theorem dX8_rankOf_49 : decode cX8_rankOf 49 = .ok (.if_icmp .ge 7, 3) := by decide +kernel
theorem dX8_rankOf_52 : decode cX8_rankOf 52 = .ok (.iconst 1, 1) := by decide +kernel
theorem dX8_rankOf_53 : decode cX8_rankOf 53 = .ok (.goto 4, 3) := by decide +kernel
theorem dX8_rankOf_56 : decode cX8_rankOf 56 = .ok (.iconst 0, 1) := by decide +kernel
theorem dX8_rankOf_57 : decode cX8_rankOf 57 = .ok (.istore 5, 2) := by decide +kernel
theorem dX8_rankOf_59 : decode cX8_rankOf 59 = .ok (.iload_n 3, 1) := by decide +kernel
theorem dX8_rankOf_60 : decode cX8_rankOf 60 = .ok (.iload 4, 2) := by decide +kernel
theorem dX8_rankOf_62 : decode cX8_rankOf 62 = .ok (.iload_n 1, 1) := by decide +kernel
theorem dX8_rankOf_63 : decode cX8_rankOf 63 = .ok (.if_icmp .eq 18, 3) := by decide +kernel
theorem dX8_rankOf_66 : decode cX8_rankOf 66 = .ok (.iload 4, 2) := by decide +kernel
theorem dX8_rankOf_68 : decode cX8_rankOf 68 = .ok (.iload_n 2, 1) := by decide +kernel
theorem dX8_rankOf_69 : decode cX8_rankOf 69 = .ok (.if_icmp .eq 12, 3) := by decide +kernel
theorem dX8_rankOf_72 : decode cX8_rankOf 72 = .ok (.iload 5, 2) := by decide +kernel
theorem dX8_rankOf_74 : decode cX8_rankOf 74 = .ok (.ifCond .eq 7, 3) := by decide +kernel
theorem dX8_rankOf_77 : decode cX8_rankOf 77 = .ok (.iconst 1, 1) := by decide +kernel
theorem dX8_rankOf_78 : decode cX8_rankOf 78 = .ok (.goto 4, 3) := by decide +kernel
theorem dX8_rankOf_81 : decode cX8_rankOf 81 = .ok (.iconst 0, 1) := by decide +kernel
theorem dX8_rankOf_82 : decode cX8_rankOf 82 = .ok (.iadd, 1) := by decide +kernel
theorem dX8_rankOf_83 : decode cX8_rankOf 83 = .ok (.istore_n 3, 1) := by decide +kernel
theorem dX8_rankOf_84 : decode cX8_rankOf 84 = .ok (.iinc 4 1, 3) := by decide +kernel
theorem dX8_rankOf_87 : decode cX8_rankOf 87 = .ok (.goto (-82), 3) := by decide +kernel
theorem dX8_rankOf_90 : decode cX8_rankOf 90 = .ok (.iload_n 3, 1) := by decide +kernel
theorem dX8_rankOf_91 : decode cX8_rankOf 91 = .ok (.ireturn, 1) := by decide +kernel
theorem dX8_nearest_0 : decode cX8_nearest 0 = .ok (.aload_n 0, 1) := by decide +kernel
theorem dX8_nearest_1 : decode cX8_nearest 1 = .ok (.iload_n 1, 1) := by decide +kernel
theorem dX8_nearest_2 : decode cX8_nearest 2 = .ok (.invokevirtual 161, 3) := by decide +kernel
theorem dX8_nearest_5 : decode cX8_nearest 5 = .ok (.ifCond .eq 7, 3) := by decide +kernel
theorem dX8_nearest_8 : decode cX8_nearest 8 = .ok (.iload_n 2, 1) := by decide +kernel
theorem dX8_nearest_9 : decode cX8_nearest 9 = .ok (.ifCond .ge 5, 3) := by decide +kernel
theorem dX8_nearest_12 : decode cX8_nearest 12 = .ok (.iconst (-1), 1) := by decide +kernel
theorem dX8_nearest_13 : decode cX8_nearest 13 = .ok (.ireturn, 1) := by decide +kernel
theorem dX8_nearest_14 : decode cX8_nearest 14 = .ok (.iconst 0, 1) := by decide +kernel
theorem dX8_nearest_15 : decode cX8_nearest 15 = .ok (.istore_n 3, 1) := by decide +kernel
theorem dX8_nearest_16 : decode cX8_nearest 16 = .ok (.iload_n 3, 1) := by decide +kernel
theorem dX8_nearest_17 : decode cX8_nearest 17 = .ok (.aload_n 0, 1) := by decide +kernel
theorem dX8_nearest_18 : decode cX8_nearest 18 = .ok (.getfield 148, 3) := by decide +kernel
theorem dX8_nearest_21 : decode cX8_nearest 21 = .ok (.if_icmp .ge 26, 3) := by decide +kernel
theorem dX8_nearest_24 : decode cX8_nearest 24 = .ok (.iload_n 3, 1) := by decide +kernel
theorem dX8_nearest_25 : decode cX8_nearest 25 = .ok (.iload_n 1, 1) := by decide +kernel
theorem dX8_nearest_26 : decode cX8_nearest 26 = .ok (.if_icmp .eq 15, 3) := by decide +kernel
theorem dX8_nearest_29 : decode cX8_nearest 29 = .ok (.aload_n 0, 1) := by decide +kernel
theorem dX8_nearest_30 : decode cX8_nearest 30 = .ok (.iload_n 1, 1) := by decide +kernel
theorem dX8_nearest_31 : decode cX8_nearest 31 = .ok (.iload_n 3, 1) := by decide +kernel
theorem dX8_nearest_32 : decode cX8_nearest 32 = .ok (.invokevirtual 207, 3) := by decide +kernel
theorem dX8_nearest_35 : decode cX8_nearest 35 = .ok (.iload_n 2, 1) := by decide +kernel
theorem dX8_nearest_36 : decode cX8_nearest 36 = .ok (.if_icmp .ne 5, 3) := by decide +kernel
theorem dX8_nearest_39 : decode cX8_nearest 39 = .ok (.iload_n 3, 1) := by decide +kernel
theorem dX8_nearest_40 : decode cX8_nearest 40 = .ok (.ireturn, 1) := by decide +kernel
theorem dX8_nearest_41 : decode cX8_nearest 41 = .ok (.iinc 3 1, 3) := by decide +kernel
theorem dX8_nearest_44 : decode cX8_nearest 44 = .ok (.goto (-28), 3) := by decide +kernel
theorem dX8_nearest_47 : decode cX8_nearest 47 = .ok (.bipush (-4), 2) := by decide +kernel
theorem dX8_nearest_49 : decode cX8_nearest 49 = .ok (.ireturn, 1) := by decide +kernel
theorem dX8_isPair_0 : decode cX8_isPair 0 = .ok (.aload_n 0, 1) := by decide +kernel
theorem dX8_isPair_1 : decode cX8_isPair 1 = .ok (.iload_n 1, 1) := by decide +kernel
theorem dX8_isPair_2 : decode cX8_isPair 2 = .ok (.iload_n 2, 1) := by decide +kernel
theorem dX8_isPair_3 : decode cX8_isPair 3 = .ok (.invokevirtual 207, 3) := by decide +kernel
theorem dX8_isPair_6 : decode cX8_isPair 6 = .ok (.aload_n 0, 1) := by decide +kernel
theorem dX8_isPair_7 : decode cX8_isPair 7 = .ok (.getfield 19, 3) := by decide +kernel
theorem dX8_isPair_10 : decode cX8_isPair 10 = .ok (.bipush 98, 2) := by decide +kernel
theorem dX8_isPair_12 : decode cX8_isPair 12 = .ok (.iaload, 1) := by decide +kernel
theorem dX8_isPair_13 : decode cX8_isPair 13 = .ok (.if_icmp .lt 19, 3) := by decide +kernel
theorem dX8_isPair_16 : decode cX8_isPair 16 = .ok (.aload_n 0, 1) := by decide +kernel
theorem dX8_isPair_17 : decode cX8_isPair 17 = .ok (.iload_n 2, 1) := by decide +kernel
theorem dX8_isPair_18 : decode cX8_isPair 18 = .ok (.iload_n 1, 1) := by decide +kernel
theorem dX8_isPair_19 : decode cX8_isPair 19 = .ok (.invokevirtual 207, 3) := by decide +kernel
theorem dX8_isPair_22 : decode cX8_isPair 22 = .ok (.aload_n 0, 1) := by decide +kernel
theorem dX8_isPair_23 : decode cX8_isPair 23 = .ok (.getfield 19, 3) := by decide +kernel
theorem dX8_isPair_26 : decode cX8_isPair 26 = .ok (.bipush 98, 2) := by decide +kernel
theorem dX8_isPair_28 : decode cX8_isPair 28 = .ok (.iaload, 1) := by decide +kernel
theorem dX8_isPair_29 : decode cX8_isPair 29 = .ok (.if_icmp .ge 7, 3) := by decide +kernel
theorem dX8_isPair_32 : decode cX8_isPair 32 = .ok (.iconst 1, 1) := by decide +kernel
theorem dX8_isPair_33 : decode cX8_isPair 33 = .ok (.goto 4, 3) := by decide +kernel
theorem dX8_isPair_36 : decode cX8_isPair 36 = .ok (.iconst 0, 1) := by decide +kernel
theorem dX8_isPair_37 : decode cX8_isPair 37 = .ok (.ireturn, 1) := by decide +kernel
theorem dX8_pair_0 : decode cX8_pair 0 = .ok (.aload_n 0, 1) := by decide +kernel
theorem dX8_pair_1 : decode cX8_pair 1 = .ok (.iload_n 1, 1) := by decide +kernel
theorem dX8_pair_2 : decode cX8_pair 2 = .ok (.iload_n 2, 1) := by decide +kernel
theorem dX8_pair_3 : decode cX8_pair 3 = .ok (.invokevirtual 210, 3) := by decide +kernel
theorem dX8_pair_6 : decode cX8_pair 6 = .ok (.ifCond .eq 20, 3) := by decide +kernel
theorem dX8_pair_9 : decode cX8_pair 9 = .ok (.aload_n 0, 1) := by decide +kernel
theorem dX8_pair_10 : decode cX8_pair 10 = .ok (.iload_n 1, 1) := by decide +kernel
theorem dX8_pair_11 : decode cX8_pair 11 = .ok (.iload_n 2, 1) := by decide +kernel
theorem dX8_pair_12 : decode cX8_pair 12 = .ok (.invokevirtual 213, 3) := by decide +kernel
theorem dX8_pair_15 : decode cX8_pair 15 = .ok (.ifCond .eq 7, 3) := by decide +kernel
theorem dX8_pair_18 : decode cX8_pair 18 = .ok (.iconst 1, 1) := by decide +kernel
theorem dX8_pair_19 : decode cX8_pair 19 = .ok (.goto 8, 3) := by decide +kernel
theorem dX8_pair_22 : decode cX8_pair 22 = .ok (.iconst 0, 1) := by decide +kernel
theorem dX8_pair_23 : decode cX8_pair 23 = .ok (.goto 4, 3) := by decide +kernel
theorem dX8_pair_26 : decode cX8_pair 26 = .ok (.iconst (-1), 1) := by decide +kernel
theorem dX8_pair_27 : decode cX8_pair 27 = .ok (.ireturn, 1) := by decide +kernel
theorem dX8_rowOf_0 : decode cX8_rowOf 0 = .ok (.aload_n 0, 1) := by decide +kernel
theorem dX8_rowOf_1 : decode cX8_rowOf 1 = .ok (.iconst 0, 1) := by decide +kernel
theorem dX8_rowOf_2 : decode cX8_rowOf 2 = .ok (.putfield 216, 3) := by decide +kernel
theorem dX8_rowOf_5 : decode cX8_rowOf 5 = .ok (.iconst 0, 1) := by decide +kernel
theorem dX8_rowOf_6 : decode cX8_rowOf 6 = .ok (.istore_n 3, 1) := by decide +kernel
theorem dX8_rowOf_7 : decode cX8_rowOf 7 = .ok (.iload_n 3, 1) := by decide +kernel
theorem dX8_rowOf_8 : decode cX8_rowOf 8 = .ok (.aload_n 0, 1) := by decide +kernel
theorem dX8_rowOf_9 : decode cX8_rowOf 9 = .ok (.getfield 151, 3) := by decide +kernel
theorem dX8_rowOf_12 : decode cX8_rowOf 12 = .ok (.if_icmp .ge 70, 3) := by decide +kernel
theorem dX8_rowOf_15 : decode cX8_rowOf 15 = .ok (.aload_n 0, 1) := by decide +kernel
theorem dX8_rowOf_16 : decode cX8_rowOf 16 = .ok (.iload_n 1, 1) := by decide +kernel
theorem dX8_rowOf_17 : decode cX8_rowOf 17 = .ok (.iload_n 3, 1) := by decide +kernel
theorem dX8_rowOf_18 : decode cX8_rowOf 18 = .ok (.invokevirtual 184, 3) := by decide +kernel
theorem dX8_rowOf_21 : decode cX8_rowOf 21 = .ok (.ifCond .eq 55, 3) := by decide +kernel
theorem dX8_rowOf_24 : decode cX8_rowOf 24 = .ok (.aload_n 0, 1) := by decide +kernel
theorem dX8_rowOf_25 : decode cX8_rowOf 25 = .ok (.iload_n 2, 1) := by decide +kernel
theorem dX8_rowOf_26 : decode cX8_rowOf 26 = .ok (.iload_n 3, 1) := by decide +kernel
theorem dX8_rowOf_27 : decode cX8_rowOf 27 = .ok (.invokevirtual 184, 3) := by decide +kernel
theorem dX8_rowOf_30 : decode cX8_rowOf 30 = .ok (.ifCond .eq 46, 3) := by decide +kernel
theorem dX8_rowOf_33 : decode cX8_rowOf 33 = .ok (.aload_n 0, 1) := by decide +kernel
theorem dX8_rowOf_34 : decode cX8_rowOf 34 = .ok (.getfield 37, 3) := by decide +kernel
theorem dX8_rowOf_37 : decode cX8_rowOf 37 = .ok (.aload_n 0, 1) := by decide +kernel
theorem dX8_rowOf_38 : decode cX8_rowOf 38 = .ok (.getfield 216, 3) := by decide +kernel
theorem dX8_rowOf_41 : decode cX8_rowOf 41 = .ok (.aload_n 0, 1) := by decide +kernel
theorem dX8_rowOf_42 : decode cX8_rowOf 42 = .ok (.iload_n 1, 1) := by decide +kernel
theorem dX8_rowOf_43 : decode cX8_rowOf 43 = .ok (.iload_n 3, 1) := by decide +kernel
theorem dX8_rowOf_44 : decode cX8_rowOf 44 = .ok (.invokevirtual 164, 3) := by decide +kernel
theorem dX8_rowOf_47 : decode cX8_rowOf 47 = .ok (.aload_n 0, 1) := by decide +kernel
theorem dX8_rowOf_48 : decode cX8_rowOf 48 = .ok (.iload_n 2, 1) := by decide +kernel
theorem dX8_rowOf_49 : decode cX8_rowOf 49 = .ok (.iload_n 3, 1) := by decide +kernel
theorem dX8_rowOf_50 : decode cX8_rowOf 50 = .ok (.invokevirtual 164, 3) := by decide +kernel
theorem dX8_rowOf_53 : decode cX8_rowOf 53 = .ok (.isub, 1) := by decide +kernel
theorem dX8_rowOf_54 : decode cX8_rowOf 54 = .ok (.i2l, 1) := by decide +kernel
theorem dX8_rowOf_55 : decode cX8_rowOf 55 = .ok (.lastore, 1) := by decide +kernel
theorem dX8_rowOf_56 : decode cX8_rowOf 56 = .ok (.aload_n 0, 1) := by decide +kernel
theorem dX8_rowOf_57 : decode cX8_rowOf 57 = .ok (.getfield 41, 3) := by decide +kernel
theorem dX8_rowOf_60 : decode cX8_rowOf 60 = .ok (.aload_n 0, 1) := by decide +kernel
theorem dX8_rowOf_61 : decode cX8_rowOf 61 = .ok (.getfield 216, 3) := by decide +kernel
theorem dX8_rowOf_64 : decode cX8_rowOf 64 = .ok (.iload_n 3, 1) := by decide +kernel
theorem dX8_rowOf_65 : decode cX8_rowOf 65 = .ok (.iastore, 1) := by decide +kernel
theorem dX8_rowOf_66 : decode cX8_rowOf 66 = .ok (.aload_n 0, 1) := by decide +kernel
theorem dX8_rowOf_67 : decode cX8_rowOf 67 = .ok (.dup, 1) := by decide +kernel
theorem dX8_rowOf_68 : decode cX8_rowOf 68 = .ok (.getfield 216, 3) := by decide +kernel
theorem dX8_rowOf_71 : decode cX8_rowOf 71 = .ok (.iconst 1, 1) := by decide +kernel
theorem dX8_rowOf_72 : decode cX8_rowOf 72 = .ok (.iadd, 1) := by decide +kernel
theorem dX8_rowOf_73 : decode cX8_rowOf 73 = .ok (.putfield 216, 3) := by decide +kernel
theorem dX8_rowOf_76 : decode cX8_rowOf 76 = .ok (.iinc 3 1, 3) := by decide +kernel
theorem dX8_rowOf_79 : decode cX8_rowOf 79 = .ok (.goto (-72), 3) := by decide +kernel
theorem dX8_rowOf_82 : decode cX8_rowOf 82 = .ok (.return_, 1) := by decide +kernel
theorem dX8_sumOf_0 : decode cX8_sumOf 0 = .ok (.lconst 0, 1) := by decide +kernel
theorem dX8_sumOf_1 : decode cX8_sumOf 1 = .ok (.lstore_n 3, 1) := by decide +kernel
theorem dX8_sumOf_2 : decode cX8_sumOf 2 = .ok (.iload_n 1, 1) := by decide +kernel
theorem dX8_sumOf_3 : decode cX8_sumOf 3 = .ok (.istore 5, 2) := by decide +kernel
theorem dX8_sumOf_5 : decode cX8_sumOf 5 = .ok (.iload 5, 2) := by decide +kernel
theorem dX8_sumOf_7 : decode cX8_sumOf 7 = .ok (.iload_n 2, 1) := by decide +kernel
theorem dX8_sumOf_8 : decode cX8_sumOf 8 = .ok (.if_icmp .gt 19, 3) := by decide +kernel
theorem dX8_sumOf_11 : decode cX8_sumOf 11 = .ok (.lload_n 3, 1) := by decide +kernel
theorem dX8_sumOf_12 : decode cX8_sumOf 12 = .ok (.aload_n 0, 1) := by decide +kernel
theorem dX8_sumOf_13 : decode cX8_sumOf 13 = .ok (.getfield 37, 3) := by decide +kernel
theorem dX8_sumOf_16 : decode cX8_sumOf 16 = .ok (.iload 5, 2) := by decide +kernel
theorem dX8_sumOf_18 : decode cX8_sumOf 18 = .ok (.laload, 1) := by decide +kernel
theorem dX8_sumOf_19 : decode cX8_sumOf 19 = .ok (.ladd, 1) := by decide +kernel
theorem dX8_sumOf_20 : decode cX8_sumOf 20 = .ok (.lstore_n 3, 1) := by decide +kernel
theorem dX8_sumOf_21 : decode cX8_sumOf 21 = .ok (.iinc 5 1, 3) := by decide +kernel
theorem dX8_sumOf_24 : decode cX8_sumOf 24 = .ok (.goto (-19), 3) := by decide +kernel
theorem dX8_sumOf_27 : decode cX8_sumOf 27 = .ok (.lload_n 3, 1) := by decide +kernel
theorem dX8_sumOf_28 : decode cX8_sumOf 28 = .ok (.lreturn, 1) := by decide +kernel
theorem dX8_spreadOf_0 : decode cX8_spreadOf 0 = .ok (.lconst 0, 1) := by decide +kernel
theorem dX8_spreadOf_1 : decode cX8_spreadOf 1 = .ok (.lstore_n 3, 1) := by decide +kernel
theorem dX8_spreadOf_2 : decode cX8_spreadOf 2 = .ok (.iload_n 1, 1) := by decide +kernel
theorem dX8_spreadOf_3 : decode cX8_spreadOf 3 = .ok (.istore 5, 2) := by decide +kernel
theorem dX8_spreadOf_5 : decode cX8_spreadOf 5 = .ok (.iload 5, 2) := by decide +kernel
theorem dX8_spreadOf_7 : decode cX8_spreadOf 7 = .ok (.iload_n 2, 1) := by decide +kernel
theorem dX8_spreadOf_8 : decode cX8_spreadOf 8 = .ok (.if_icmp .gt 27, 3) := by decide +kernel
theorem dX8_spreadOf_11 : decode cX8_spreadOf 11 = .ok (.lload_n 3, 1) := by decide +kernel
theorem dX8_spreadOf_12 : decode cX8_spreadOf 12 = .ok (.aload_n 0, 1) := by decide +kernel
theorem dX8_spreadOf_13 : decode cX8_spreadOf 13 = .ok (.getfield 37, 3) := by decide +kernel
theorem dX8_spreadOf_16 : decode cX8_spreadOf 16 = .ok (.iload 5, 2) := by decide +kernel
theorem dX8_spreadOf_18 : decode cX8_spreadOf 18 = .ok (.laload, 1) := by decide +kernel
theorem dX8_spreadOf_19 : decode cX8_spreadOf 19 = .ok (.aload_n 0, 1) := by decide +kernel
theorem dX8_spreadOf_20 : decode cX8_spreadOf 20 = .ok (.getfield 37, 3) := by decide +kernel
theorem dX8_spreadOf_23 : decode cX8_spreadOf 23 = .ok (.iload 5, 2) := by decide +kernel
theorem dX8_spreadOf_25 : decode cX8_spreadOf 25 = .ok (.laload, 1) := by decide +kernel
theorem dX8_spreadOf_26 : decode cX8_spreadOf 26 = .ok (.lmul, 1) := by decide +kernel
theorem dX8_spreadOf_27 : decode cX8_spreadOf 27 = .ok (.ladd, 1) := by decide +kernel
theorem dX8_spreadOf_28 : decode cX8_spreadOf 28 = .ok (.lstore_n 3, 1) := by decide +kernel
theorem dX8_spreadOf_29 : decode cX8_spreadOf 29 = .ok (.iinc 5 1, 3) := by decide +kernel
theorem dX8_spreadOf_32 : decode cX8_spreadOf 32 = .ok (.goto (-27), 3) := by decide +kernel
theorem dX8_spreadOf_35 : decode cX8_spreadOf 35 = .ok (.aload_n 0, 1) := by decide +kernel
theorem dX8_spreadOf_36 : decode cX8_spreadOf 36 = .ok (.iload_n 1, 1) := by decide +kernel
theorem dX8_spreadOf_37 : decode cX8_spreadOf 37 = .ok (.iload_n 2, 1) := by decide +kernel
theorem dX8_spreadOf_38 : decode cX8_spreadOf 38 = .ok (.invokevirtual 219, 3) := by decide +kernel
theorem dX8_spreadOf_41 : decode cX8_spreadOf 41 = .ok (.lstore 5, 2) := by decide +kernel
theorem dX8_spreadOf_43 : decode cX8_spreadOf 43 = .ok (.ldc2_w 223, 3) := by decide +kernel
theorem dX8_spreadOf_46 : decode cX8_spreadOf 46 = .ok (.lload_n 3, 1) := by decide +kernel
theorem dX8_spreadOf_47 : decode cX8_spreadOf 47 = .ok (.lmul, 1) := by decide +kernel
theorem dX8_spreadOf_48 : decode cX8_spreadOf 48 = .ok (.ldc 225, 2) := by decide +kernel
theorem dX8_spreadOf_50 : decode cX8_spreadOf 50 = .ok (.iload_n 2, 1) := by decide +kernel
theorem dX8_spreadOf_51 : decode cX8_spreadOf 51 = .ok (.iload_n 1, 1) := by decide +kernel
theorem dX8_spreadOf_52 : decode cX8_spreadOf 52 = .ok (.isub, 1) := by decide +kernel
theorem dX8_spreadOf_53 : decode cX8_spreadOf 53 = .ok (.iconst 1, 1) := by decide +kernel
theorem dX8_spreadOf_54 : decode cX8_spreadOf 54 = .ok (.iadd, 1) := by decide +kernel
theorem dX8_spreadOf_55 : decode cX8_spreadOf 55 = .ok (.idiv, 1) := by decide +kernel
theorem dX8_spreadOf_56 : decode cX8_spreadOf 56 = .ok (.i2l, 1) := by decide +kernel
theorem dX8_spreadOf_57 : decode cX8_spreadOf 57 = .ok (.lload 5, 2) := by decide +kernel
theorem dX8_spreadOf_59 : decode cX8_spreadOf 59 = .ok (.lmul, 1) := by decide +kernel
theorem dX8_spreadOf_60 : decode cX8_spreadOf 60 = .ok (.lload 5, 2) := by decide +kernel
theorem dX8_spreadOf_62 : decode cX8_spreadOf 62 = .ok (.lmul, 1) := by decide +kernel
theorem dX8_spreadOf_63 : decode cX8_spreadOf 63 = .ok (.lsub, 1) := by decide +kernel
theorem dX8_spreadOf_64 : decode cX8_spreadOf 64 = .ok (.lreturn, 1) := by decide +kernel
theorem dX8_learn_0 : decode cX8_learn 0 = .ok (.aload_n 0, 1) := by decide +kernel
theorem dX8_learn_1 : decode cX8_learn 1 = .ok (.iload_n 1, 1) := by decide +kernel
theorem dX8_learn_2 : decode cX8_learn 2 = .ok (.iload_n 2, 1) := by decide +kernel
theorem dX8_learn_3 : decode cX8_learn 3 = .ok (.invokevirtual 226, 3) := by decide +kernel
theorem dX8_learn_6 : decode cX8_learn 6 = .ok (.aload_n 0, 1) := by decide +kernel
theorem dX8_learn_7 : decode cX8_learn 7 = .ok (.getfield 19, 3) := by decide +kernel
theorem dX8_learn_10 : decode cX8_learn 10 = .ok (.bipush 97, 2) := by decide +kernel
theorem dX8_learn_12 : decode cX8_learn 12 = .ok (.iaload, 1) := by decide +kernel
theorem dX8_learn_13 : decode cX8_learn 13 = .ok (.istore_n 3, 1) := by decide +kernel
theorem dX8_learn_14 : decode cX8_learn 14 = .ok (.iconst 0, 1) := by decide +kernel
theorem dX8_learn_15 : decode cX8_learn 15 = .ok (.istore 4, 2) := by decide +kernel
theorem dX8_learn_17 : decode cX8_learn 17 = .ok (.iload 4, 2) := by decide +kernel
theorem dX8_learn_19 : decode cX8_learn 19 = .ok (.sipush 272, 3) := by decide +kernel
theorem dX8_learn_22 : decode cX8_learn 22 = .ok (.if_icmp .ge 19, 3) := by decide +kernel
theorem dX8_learn_25 : decode cX8_learn 25 = .ok (.aload_n 0, 1) := by decide +kernel
theorem dX8_learn_26 : decode cX8_learn 26 = .ok (.getfield 44, 3) := by decide +kernel
theorem dX8_learn_29 : decode cX8_learn 29 = .ok (.iload 4, 2) := by decide +kernel
theorem dX8_learn_31 : decode cX8_learn 31 = .ok (.ldc2_w 229, 3) := by decide +kernel
theorem dX8_learn_34 : decode cX8_learn 34 = .ok (.lastore, 1) := by decide +kernel
theorem dX8_learn_35 : decode cX8_learn 35 = .ok (.iinc 4 1, 3) := by decide +kernel
theorem dX8_learn_38 : decode cX8_learn 38 = .ok (.goto (-21), 3) := by decide +kernel
theorem dX8_learn_41 : decode cX8_learn 41 = .ok (.aload_n 0, 1) := by decide +kernel
theorem dX8_learn_42 : decode cX8_learn 42 = .ok (.getfield 216, 3) := by decide +kernel
theorem dX8_learn_45 : decode cX8_learn 45 = .ok (.ifCond .ne 11, 3) := by decide +kernel
theorem dX8_learn_48 : decode cX8_learn 48 = .ok (.aload_n 0, 1) := by decide +kernel
theorem dX8_learn_49 : decode cX8_learn 49 = .ok (.getfield 44, 3) := by decide +kernel
theorem dX8_learn_52 : decode cX8_learn 52 = .ok (.iconst 0, 1) := by decide +kernel
theorem dX8_learn_53 : decode cX8_learn 53 = .ok (.lconst 0, 1) := by decide +kernel
theorem dX8_learn_54 : decode cX8_learn 54 = .ok (.lastore, 1) := by decide +kernel
theorem dX8_learn_55 : decode cX8_learn 55 = .ok (.return_, 1) := by decide +kernel
theorem dX8_learn_56 : decode cX8_learn 56 = .ok (.iconst 0, 1) := by decide +kernel
theorem dX8_learn_57 : decode cX8_learn 57 = .ok (.istore 4, 2) := by decide +kernel
theorem dX8_learn_59 : decode cX8_learn 59 = .ok (.iload 4, 2) := by decide +kernel
theorem dX8_learn_61 : decode cX8_learn 61 = .ok (.aload_n 0, 1) := by decide +kernel
theorem dX8_learn_62 : decode cX8_learn 62 = .ok (.getfield 216, 3) := by decide +kernel
theorem dX8_learn_65 : decode cX8_learn 65 = .ok (.if_icmp .ge 50, 3) := by decide +kernel
theorem dX8_learn_68 : decode cX8_learn 68 = .ok (.aload_n 0, 1) := by decide +kernel
theorem dX8_learn_69 : decode cX8_learn 69 = .ok (.getfield 44, 3) := by decide +kernel
theorem dX8_learn_72 : decode cX8_learn 72 = .ok (.iload 4, 2) := by decide +kernel
theorem dX8_learn_74 : decode cX8_learn 74 = .ok (.iload 4, 2) := by decide +kernel
theorem dX8_learn_76 : decode cX8_learn 76 = .ok (.ifCond .eq 14, 3) := by decide +kernel
theorem dX8_learn_79 : decode cX8_learn 79 = .ok (.aload_n 0, 1) := by decide +kernel
theorem dX8_learn_80 : decode cX8_learn 80 = .ok (.getfield 216, 3) := by decide +kernel
theorem dX8_learn_83 : decode cX8_learn 83 = .ok (.iload 4, 2) := by decide +kernel
theorem dX8_learn_85 : decode cX8_learn 85 = .ok (.isub, 1) := by decide +kernel
theorem dX8_learn_86 : decode cX8_learn 86 = .ok (.iload_n 3, 1) := by decide +kernel
theorem dX8_learn_87 : decode cX8_learn 87 = .ok (.if_icmp .lt 18, 3) := by decide +kernel
theorem dX8_learn_90 : decode cX8_learn 90 = .ok (.aload_n 0, 1) := by decide +kernel
theorem dX8_learn_91 : decode cX8_learn 91 = .ok (.iload 4, 2) := by decide +kernel
theorem dX8_learn_93 : decode cX8_learn 93 = .ok (.aload_n 0, 1) := by decide +kernel
theorem dX8_learn_94 : decode cX8_learn 94 = .ok (.getfield 216, 3) := by decide +kernel
theorem dX8_learn_97 : decode cX8_learn 97 = .ok (.iconst 1, 1) := by decide +kernel
theorem dX8_learn_98 : decode cX8_learn 98 = .ok (.isub, 1) := by decide +kernel
theorem dX8_learn_99 : decode cX8_learn 99 = .ok (.invokevirtual 231, 3) := by decide +kernel
theorem dX8_learn_102 : decode cX8_learn 102 = .ok (.goto 6, 3) := by decide +kernel
theorem dX8_learn_105 : decode cX8_learn 105 = .ok (.ldc2_w 229, 3) := by decide +kernel
theorem dX8_learn_108 : decode cX8_learn 108 = .ok (.lastore, 1) := by decide +kernel
theorem dX8_learn_109 : decode cX8_learn 109 = .ok (.iinc 4 1, 3) := by decide +kernel
theorem dX8_learn_112 : decode cX8_learn 112 = .ok (.goto (-53), 3) := by decide +kernel
theorem dX8_learn_115 : decode cX8_learn 115 = .ok (.iconst 1, 1) := by decide +kernel
theorem dX8_learn_116 : decode cX8_learn 116 = .ok (.istore 4, 2) := by decide +kernel
theorem dX8_learn_118 : decode cX8_learn 118 = .ok (.iload 4, 2) := by decide +kernel
theorem dX8_learn_120 : decode cX8_learn 120 = .ok (.aload_n 0, 1) := by decide +kernel
theorem dX8_learn_121 : decode cX8_learn 121 = .ok (.getfield 216, 3) := by decide +kernel
theorem dX8_learn_124 : decode cX8_learn 124 = .ok (.if_icmp .ge 148, 3) := by decide +kernel
theorem dX8_learn_127 : decode cX8_learn 127 = .ok (.iconst 0, 1) := by decide +kernel
theorem dX8_learn_128 : decode cX8_learn 128 = .ok (.istore 5, 2) := by decide +kernel
theorem dX8_learn_130 : decode cX8_learn 130 = .ok (.iload 5, 2) := by decide +kernel
theorem dX8_learn_132 : decode cX8_learn 132 = .ok (.aload_n 0, 1) := by decide +kernel
theorem dX8_learn_133 : decode cX8_learn 133 = .ok (.getfield 216, 3) := by decide +kernel
theorem dX8_learn_136 : decode cX8_learn 136 = .ok (.if_icmp .ge 130, 3) := by decide +kernel
theorem dX8_learn_139 : decode cX8_learn 139 = .ok (.iload 5, 2) := by decide +kernel
theorem dX8_learn_141 : decode cX8_learn 141 = .ok (.iload_n 3, 1) := by decide +kernel
theorem dX8_learn_142 : decode cX8_learn 142 = .ok (.iadd, 1) := by decide +kernel
theorem dX8_learn_143 : decode cX8_learn 143 = .ok (.istore 6, 2) := by decide +kernel
theorem dX8_learn_145 : decode cX8_learn 145 = .ok (.iload 6, 2) := by decide +kernel
theorem dX8_learn_147 : decode cX8_learn 147 = .ok (.aload_n 0, 1) := by decide +kernel
theorem dX8_learn_148 : decode cX8_learn 148 = .ok (.getfield 216, 3) := by decide +kernel
theorem dX8_learn_151 : decode cX8_learn 151 = .ok (.if_icmp .ge 109, 3) := by decide +kernel
theorem dX8_learn_154 : decode cX8_learn 154 = .ok (.aload_n 0, 1) := by decide +kernel
theorem dX8_learn_155 : decode cX8_learn 155 = .ok (.getfield 44, 3) := by decide +kernel
theorem dX8_learn_158 : decode cX8_learn 158 = .ok (.bipush 17, 2) := by decide +kernel
theorem dX8_learn_160 : decode cX8_learn 160 = .ok (.iload 4, 2) := by decide +kernel
theorem dX8_learn_162 : decode cX8_learn 162 = .ok (.iconst 1, 1) := by decide +kernel
theorem dX8_learn_163 : decode cX8_learn 163 = .ok (.isub, 1) := by decide +kernel
theorem dX8_learn_164 : decode cX8_learn 164 = .ok (.imul, 1) := by decide +kernel
theorem dX8_learn_165 : decode cX8_learn 165 = .ok (.iload 6, 2) := by decide +kernel
theorem dX8_learn_167 : decode cX8_learn 167 = .ok (.iadd, 1) := by decide +kernel
theorem dX8_learn_168 : decode cX8_learn 168 = .ok (.laload, 1) := by decide +kernel
theorem dX8_learn_169 : decode cX8_learn 169 = .ok (.ldc2_w 229, 3) := by decide +kernel
theorem dX8_learn_172 : decode cX8_learn 172 = .ok (.lcmp, 1) := by decide +kernel
theorem dX8_learn_173 : decode cX8_learn 173 = .ok (.ifCond .ge 81, 3) := by decide +kernel
theorem dX8_learn_176 : decode cX8_learn 176 = .ok (.aload_n 0, 1) := by decide +kernel
theorem dX8_learn_177 : decode cX8_learn 177 = .ok (.iload 5, 2) := by decide +kernel
theorem dX8_learn_179 : decode cX8_learn 179 = .ok (.iload 6, 2) := by decide +kernel
theorem dX8_learn_181 : decode cX8_learn 181 = .ok (.iconst 1, 1) := by decide +kernel
theorem dX8_learn_182 : decode cX8_learn 182 = .ok (.isub, 1) := by decide +kernel
theorem dX8_learn_183 : decode cX8_learn 183 = .ok (.invokevirtual 231, 3) := by decide +kernel
theorem dX8_learn_186 : decode cX8_learn 186 = .ok (.aload_n 0, 1) := by decide +kernel
theorem dX8_learn_187 : decode cX8_learn 187 = .ok (.getfield 44, 3) := by decide +kernel
theorem dX8_learn_190 : decode cX8_learn 190 = .ok (.bipush 17, 2) := by decide +kernel
theorem dX8_learn_192 : decode cX8_learn 192 = .ok (.iload 4, 2) := by decide +kernel
theorem dX8_learn_194 : decode cX8_learn 194 = .ok (.iconst 1, 1) := by decide +kernel
theorem dX8_learn_195 : decode cX8_learn 195 = .ok (.isub, 1) := by decide +kernel
theorem dX8_learn_196 : decode cX8_learn 196 = .ok (.imul, 1) := by decide +kernel
theorem dX8_learn_197 : decode cX8_learn 197 = .ok (.iload 6, 2) := by decide +kernel
theorem dX8_learn_199 : decode cX8_learn 199 = .ok (.iadd, 1) := by decide +kernel
theorem dX8_learn_200 : decode cX8_learn 200 = .ok (.laload, 1) := by decide +kernel
theorem dX8_learn_201 : decode cX8_learn 201 = .ok (.ladd, 1) := by decide +kernel
theorem dX8_learn_202 : decode cX8_learn 202 = .ok (.lstore 7, 2) := by decide +kernel
theorem dX8_learn_204 : decode cX8_learn 204 = .ok (.aload_n 0, 1) := by decide +kernel
theorem dX8_learn_205 : decode cX8_learn 205 = .ok (.getfield 44, 3) := by decide +kernel
theorem dX8_learn_208 : decode cX8_learn 208 = .ok (.bipush 17, 2) := by decide +kernel
theorem dX8_learn_210 : decode cX8_learn 210 = .ok (.iload 4, 2) := by decide +kernel
theorem dX8_learn_212 : decode cX8_learn 212 = .ok (.imul, 1) := by decide +kernel
theorem dX8_learn_213 : decode cX8_learn 213 = .ok (.iload 5, 2) := by decide +kernel
theorem dX8_learn_215 : decode cX8_learn 215 = .ok (.iadd, 1) := by decide +kernel
theorem dX8_learn_216 : decode cX8_learn 216 = .ok (.lload 7, 2) := by decide +kernel
theorem dX8_learn_218 : decode cX8_learn 218 = .ok (.aload_n 0, 1) := by decide +kernel
theorem dX8_learn_219 : decode cX8_learn 219 = .ok (.getfield 44, 3) := by decide +kernel
theorem dX8_learn_222 : decode cX8_learn 222 = .ok (.bipush 17, 2) := by decide +kernel
theorem dX8_learn_224 : decode cX8_learn 224 = .ok (.iload 4, 2) := by decide +kernel
theorem dX8_learn_226 : decode cX8_learn 226 = .ok (.imul, 1) := by decide +kernel
theorem dX8_learn_227 : decode cX8_learn 227 = .ok (.iload 5, 2) := by decide +kernel
theorem dX8_learn_229 : decode cX8_learn 229 = .ok (.iadd, 1) := by decide +kernel
theorem dX8_learn_230 : decode cX8_learn 230 = .ok (.laload, 1) := by decide +kernel
theorem dX8_learn_231 : decode cX8_learn 231 = .ok (.lcmp, 1) := by decide +kernel
theorem dX8_learn_232 : decode cX8_learn 232 = .ok (.ifCond .ge 8, 3) := by decide +kernel
theorem dX8_learn_235 : decode cX8_learn 235 = .ok (.lload 7, 2) := by decide +kernel
theorem dX8_learn_237 : decode cX8_learn 237 = .ok (.goto 16, 3) := by decide +kernel
theorem dX8_learn_240 : decode cX8_learn 240 = .ok (.aload_n 0, 1) := by decide +kernel
theorem dX8_learn_241 : decode cX8_learn 241 = .ok (.getfield 44, 3) := by decide +kernel
theorem dX8_learn_244 : decode cX8_learn 244 = .ok (.bipush 17, 2) := by decide +kernel
theorem dX8_learn_246 : decode cX8_learn 246 = .ok (.iload 4, 2) := by decide +kernel
theorem dX8_learn_248 : decode cX8_learn 248 = .ok (.imul, 1) := by decide +kernel
theorem dX8_learn_249 : decode cX8_learn 249 = .ok (.iload 5, 2) := by decide +kernel
theorem dX8_learn_251 : decode cX8_learn 251 = .ok (.iadd, 1) := by decide +kernel
theorem dX8_learn_252 : decode cX8_learn 252 = .ok (.laload, 1) := by decide +kernel
theorem dX8_learn_253 : decode cX8_learn 253 = .ok (.lastore, 1) := by decide +kernel
theorem dX8_learn_254 : decode cX8_learn 254 = .ok (.iinc 6 1, 3) := by decide +kernel
theorem dX8_learn_257 : decode cX8_learn 257 = .ok (.goto (-112), 3) := by decide +kernel
theorem dX8_learn_260 : decode cX8_learn 260 = .ok (.iinc 5 1, 3) := by decide +kernel
theorem dX8_learn_263 : decode cX8_learn 263 = .ok (.goto (-133), 3) := by decide +kernel
theorem dX8_learn_266 : decode cX8_learn 266 = .ok (.iinc 4 1, 3) := by decide +kernel
theorem dX8_learn_269 : decode cX8_learn 269 = .ok (.goto (-151), 3) := by decide +kernel
theorem dX8_learn_272 : decode cX8_learn 272 = .ok (.return_, 1) := by decide +kernel
theorem dX8_breaksBy_0 : decode cX8_breaksBy 0 = .ok (.iconst 0, 1) := by decide +kernel
theorem dX8_breaksBy_1 : decode cX8_breaksBy 1 = .ok (.istore_n 2, 1) := by decide +kernel
theorem dX8_breaksBy_2 : decode cX8_breaksBy 2 = .ok (.iconst 1, 1) := by decide +kernel
theorem dX8_breaksBy_3 : decode cX8_breaksBy 3 = .ok (.istore_n 3, 1) := by decide +kernel
theorem dX8_breaksBy_4 : decode cX8_breaksBy 4 = .ok (.iload_n 3, 1) := by decide +kernel
theorem dX8_breaksBy_5 : decode cX8_breaksBy 5 = .ok (.bipush 16, 2) := by decide +kernel
theorem dX8_breaksBy_7 : decode cX8_breaksBy 7 = .ok (.if_icmp .ge 73, 3) := by decide +kernel
theorem dX8_breaksBy_10 : decode cX8_breaksBy 10 = .ok (.aload_n 0, 1) := by decide +kernel
theorem dX8_breaksBy_11 : decode cX8_breaksBy 11 = .ok (.getfield 44, 3) := by decide +kernel
theorem dX8_breaksBy_14 : decode cX8_breaksBy 14 = .ok (.bipush 17, 2) := by decide +kernel
theorem dX8_breaksBy_16 : decode cX8_breaksBy 16 = .ok (.iload_n 3, 1) := by decide +kernel
theorem dX8_breaksBy_17 : decode cX8_breaksBy 17 = .ok (.imul, 1) := by decide +kernel
theorem dX8_breaksBy_18 : decode cX8_breaksBy 18 = .ok (.laload, 1) := by decide +kernel
theorem dX8_breaksBy_19 : decode cX8_breaksBy 19 = .ok (.ldc2_w 223, 3) := by decide +kernel
theorem dX8_breaksBy_22 : decode cX8_breaksBy 22 = .ok (.iload_n 1, 1) := by decide +kernel
theorem dX8_breaksBy_23 : decode cX8_breaksBy 23 = .ok (.i2l, 1) := by decide +kernel
theorem dX8_breaksBy_24 : decode cX8_breaksBy 24 = .ok (.lmul, 1) := by decide +kernel
theorem dX8_breaksBy_25 : decode cX8_breaksBy 25 = .ok (.iload_n 3, 1) := by decide +kernel
theorem dX8_breaksBy_26 : decode cX8_breaksBy 26 = .ok (.i2l, 1) := by decide +kernel
theorem dX8_breaksBy_27 : decode cX8_breaksBy 27 = .ok (.lmul, 1) := by decide +kernel
theorem dX8_breaksBy_28 : decode cX8_breaksBy 28 = .ok (.ladd, 1) := by decide +kernel
theorem dX8_breaksBy_29 : decode cX8_breaksBy 29 = .ok (.lstore 4, 2) := by decide +kernel
theorem dX8_breaksBy_31 : decode cX8_breaksBy 31 = .ok (.aload_n 0, 1) := by decide +kernel
theorem dX8_breaksBy_32 : decode cX8_breaksBy 32 = .ok (.getfield 44, 3) := by decide +kernel
theorem dX8_breaksBy_35 : decode cX8_breaksBy 35 = .ok (.bipush 17, 2) := by decide +kernel
theorem dX8_breaksBy_37 : decode cX8_breaksBy 37 = .ok (.iload_n 3, 1) := by decide +kernel
theorem dX8_breaksBy_38 : decode cX8_breaksBy 38 = .ok (.imul, 1) := by decide +kernel
theorem dX8_breaksBy_39 : decode cX8_breaksBy 39 = .ok (.laload, 1) := by decide +kernel
theorem dX8_breaksBy_40 : decode cX8_breaksBy 40 = .ok (.ldc2_w 229, 3) := by decide +kernel
theorem dX8_breaksBy_43 : decode cX8_breaksBy 43 = .ok (.lcmp, 1) := by decide +kernel
theorem dX8_breaksBy_44 : decode cX8_breaksBy 44 = .ok (.ifCond .ge 30, 3) := by decide +kernel
theorem dX8_breaksBy_47 : decode cX8_breaksBy 47 = .ok (.lload 4, 2) := by decide +kernel
theorem dX8_breaksBy_49 : decode cX8_breaksBy 49 = .ok (.aload_n 0, 1) := by decide +kernel
theorem dX8_breaksBy_50 : decode cX8_breaksBy 50 = .ok (.getfield 44, 3) := by decide +kernel
theorem dX8_breaksBy_53 : decode cX8_breaksBy 53 = .ok (.bipush 17, 2) := by decide +kernel
theorem dX8_breaksBy_55 : decode cX8_breaksBy 55 = .ok (.iload_n 2, 1) := by decide +kernel
theorem dX8_breaksBy_56 : decode cX8_breaksBy 56 = .ok (.imul, 1) := by decide +kernel
theorem dX8_breaksBy_57 : decode cX8_breaksBy 57 = .ok (.laload, 1) := by decide +kernel
theorem dX8_breaksBy_58 : decode cX8_breaksBy 58 = .ok (.ldc2_w 223, 3) := by decide +kernel
theorem dX8_breaksBy_61 : decode cX8_breaksBy 61 = .ok (.iload_n 1, 1) := by decide +kernel
theorem dX8_breaksBy_62 : decode cX8_breaksBy 62 = .ok (.i2l, 1) := by decide +kernel
theorem dX8_breaksBy_63 : decode cX8_breaksBy 63 = .ok (.lmul, 1) := by decide +kernel
theorem dX8_breaksBy_64 : decode cX8_breaksBy 64 = .ok (.iload_n 2, 1) := by decide +kernel
theorem dX8_breaksBy_65 : decode cX8_breaksBy 65 = .ok (.i2l, 1) := by decide +kernel
theorem dX8_breaksBy_66 : decode cX8_breaksBy 66 = .ok (.lmul, 1) := by decide +kernel
theorem dX8_breaksBy_67 : decode cX8_breaksBy 67 = .ok (.ladd, 1) := by decide +kernel
theorem dX8_breaksBy_68 : decode cX8_breaksBy 68 = .ok (.lcmp, 1) := by decide +kernel
theorem dX8_breaksBy_69 : decode cX8_breaksBy 69 = .ok (.ifCond .ge 5, 3) := by decide +kernel
theorem dX8_breaksBy_72 : decode cX8_breaksBy 72 = .ok (.iload_n 3, 1) := by decide +kernel
theorem dX8_breaksBy_73 : decode cX8_breaksBy 73 = .ok (.istore_n 2, 1) := by decide +kernel
theorem dX8_breaksBy_74 : decode cX8_breaksBy 74 = .ok (.iinc 3 1, 3) := by decide +kernel
theorem dX8_breaksBy_77 : decode cX8_breaksBy 77 = .ok (.goto (-73), 3) := by decide +kernel
theorem dX8_breaksBy_80 : decode cX8_breaksBy 80 = .ok (.iload_n 2, 1) := by decide +kernel
theorem dX8_breaksBy_81 : decode cX8_breaksBy 81 = .ok (.ireturn, 1) := by decide +kernel
theorem dX8_findBest_0 : decode cX8_findBest 0 = .ok (.aload_n 0, 1) := by decide +kernel
theorem dX8_findBest_1 : decode cX8_findBest 1 = .ok (.iload_n 1, 1) := by decide +kernel
theorem dX8_findBest_2 : decode cX8_findBest 2 = .ok (.iload_n 2, 1) := by decide +kernel
theorem dX8_findBest_3 : decode cX8_findBest 3 = .ok (.invokevirtual 234, 3) := by decide +kernel
theorem dX8_findBest_6 : decode cX8_findBest 6 = .ok (.aload_n 0, 1) := by decide +kernel
theorem dX8_findBest_7 : decode cX8_findBest 7 = .ok (.aload_n 0, 1) := by decide +kernel
theorem dX8_findBest_8 : decode cX8_findBest 8 = .ok (.aload_n 0, 1) := by decide +kernel
theorem dX8_findBest_9 : decode cX8_findBest 9 = .ok (.getfield 19, 3) := by decide +kernel
theorem dX8_findBest_12 : decode cX8_findBest 12 = .ok (.bipush 96, 2) := by decide +kernel
theorem dX8_findBest_14 : decode cX8_findBest 14 = .ok (.iaload, 1) := by decide +kernel
theorem dX8_findBest_15 : decode cX8_findBest 15 = .ok (.invokevirtual 237, 3) := by decide +kernel
theorem dX8_findBest_18 : decode cX8_findBest 18 = .ok (.putfield 240, 3) := by decide +kernel
theorem dX8_findBest_21 : decode cX8_findBest 21 = .ok (.iconst 0, 1) := by decide +kernel
theorem dX8_findBest_22 : decode cX8_findBest 22 = .ok (.istore_n 3, 1) := by decide +kernel
theorem dX8_findBest_23 : decode cX8_findBest 23 = .ok (.aload_n 0, 1) := by decide +kernel
theorem dX8_findBest_24 : decode cX8_findBest 24 = .ok (.getfield 240, 3) := by decide +kernel
theorem dX8_findBest_27 : decode cX8_findBest 27 = .ok (.istore 4, 2) := by decide +kernel
theorem dX8_findBest_29 : decode cX8_findBest 29 = .ok (.iload 4, 2) := by decide +kernel
theorem dX8_findBest_31 : decode cX8_findBest 31 = .ok (.ifCond .le 106, 3) := by decide +kernel
theorem dX8_findBest_34 : decode cX8_findBest 34 = .ok (.iload_n 3, 1) := by decide +kernel
theorem dX8_findBest_35 : decode cX8_findBest 35 = .ok (.aload_n 0, 1) := by decide +kernel
theorem dX8_findBest_36 : decode cX8_findBest 36 = .ok (.getfield 19, 3) := by decide +kernel
theorem dX8_findBest_39 : decode cX8_findBest 39 = .ok (.bipush 97, 2) := by decide +kernel
theorem dX8_findBest_41 : decode cX8_findBest 41 = .ok (.iaload, 1) := by decide +kernel
theorem dX8_findBest_42 : decode cX8_findBest 42 = .ok (.iadd, 1) := by decide +kernel
theorem dX8_findBest_43 : decode cX8_findBest 43 = .ok (.istore 5, 2) := by decide +kernel
theorem dX8_findBest_45 : decode cX8_findBest 45 = .ok (.aload_n 0, 1) := by decide +kernel
theorem dX8_findBest_46 : decode cX8_findBest 46 = .ok (.getfield 44, 3) := by decide +kernel
theorem dX8_findBest_49 : decode cX8_findBest 49 = .ok (.bipush 17, 2) := by decide +kernel
theorem dX8_findBest_51 : decode cX8_findBest 51 = .ok (.iload 4, 2) := by decide +kernel
theorem dX8_findBest_53 : decode cX8_findBest 53 = .ok (.iconst 1, 1) := by decide +kernel
theorem dX8_findBest_54 : decode cX8_findBest 54 = .ok (.isub, 1) := by decide +kernel
theorem dX8_findBest_55 : decode cX8_findBest 55 = .ok (.imul, 1) := by decide +kernel
theorem dX8_findBest_56 : decode cX8_findBest 56 = .ok (.iload 5, 2) := by decide +kernel
theorem dX8_findBest_58 : decode cX8_findBest 58 = .ok (.iadd, 1) := by decide +kernel
theorem dX8_findBest_59 : decode cX8_findBest 59 = .ok (.laload, 1) := by decide +kernel
theorem dX8_findBest_60 : decode cX8_findBest 60 = .ok (.ldc2_w 229, 3) := by decide +kernel
theorem dX8_findBest_63 : decode cX8_findBest 63 = .ok (.lcmp, 1) := by decide +kernel
theorem dX8_findBest_64 : decode cX8_findBest 64 = .ok (.ifCond .ge 44, 3) := by decide +kernel
theorem dX8_findBest_67 : decode cX8_findBest 67 = .ok (.aload_n 0, 1) := by decide +kernel
theorem dX8_findBest_68 : decode cX8_findBest 68 = .ok (.iload_n 3, 1) := by decide +kernel
theorem dX8_findBest_69 : decode cX8_findBest 69 = .ok (.iload 5, 2) := by decide +kernel
theorem dX8_findBest_71 : decode cX8_findBest 71 = .ok (.iconst 1, 1) := by decide +kernel
theorem dX8_findBest_72 : decode cX8_findBest 72 = .ok (.isub, 1) := by decide +kernel
theorem dX8_findBest_73 : decode cX8_findBest 73 = .ok (.invokevirtual 231, 3) := by decide +kernel
theorem dX8_findBest_76 : decode cX8_findBest 76 = .ok (.aload_n 0, 1) := by decide +kernel
theorem dX8_findBest_77 : decode cX8_findBest 77 = .ok (.getfield 44, 3) := by decide +kernel
theorem dX8_findBest_80 : decode cX8_findBest 80 = .ok (.bipush 17, 2) := by decide +kernel
theorem dX8_findBest_82 : decode cX8_findBest 82 = .ok (.iload 4, 2) := by decide +kernel
theorem dX8_findBest_84 : decode cX8_findBest 84 = .ok (.iconst 1, 1) := by decide +kernel
theorem dX8_findBest_85 : decode cX8_findBest 85 = .ok (.isub, 1) := by decide +kernel
theorem dX8_findBest_86 : decode cX8_findBest 86 = .ok (.imul, 1) := by decide +kernel
theorem dX8_findBest_87 : decode cX8_findBest 87 = .ok (.iload 5, 2) := by decide +kernel
theorem dX8_findBest_89 : decode cX8_findBest 89 = .ok (.iadd, 1) := by decide +kernel
theorem dX8_findBest_90 : decode cX8_findBest 90 = .ok (.laload, 1) := by decide +kernel
theorem dX8_findBest_91 : decode cX8_findBest 91 = .ok (.ladd, 1) := by decide +kernel
theorem dX8_findBest_92 : decode cX8_findBest 92 = .ok (.aload_n 0, 1) := by decide +kernel
theorem dX8_findBest_93 : decode cX8_findBest 93 = .ok (.getfield 44, 3) := by decide +kernel
theorem dX8_findBest_96 : decode cX8_findBest 96 = .ok (.bipush 17, 2) := by decide +kernel
theorem dX8_findBest_98 : decode cX8_findBest 98 = .ok (.iload 4, 2) := by decide +kernel
theorem dX8_findBest_100 : decode cX8_findBest 100 = .ok (.imul, 1) := by decide +kernel
theorem dX8_findBest_101 : decode cX8_findBest 101 = .ok (.iload_n 3, 1) := by decide +kernel
theorem dX8_findBest_102 : decode cX8_findBest 102 = .ok (.iadd, 1) := by decide +kernel
theorem dX8_findBest_103 : decode cX8_findBest 103 = .ok (.laload, 1) := by decide +kernel
theorem dX8_findBest_104 : decode cX8_findBest 104 = .ok (.lcmp, 1) := by decide +kernel
theorem dX8_findBest_105 : decode cX8_findBest 105 = .ok (.ifCond .eq 9, 3) := by decide +kernel
theorem dX8_findBest_108 : decode cX8_findBest 108 = .ok (.iinc 5 1, 3) := by decide +kernel
theorem dX8_findBest_111 : decode cX8_findBest 111 = .ok (.goto (-66), 3) := by decide +kernel
theorem dX8_findBest_114 : decode cX8_findBest 114 = .ok (.aload_n 0, 1) := by decide +kernel
theorem dX8_findBest_115 : decode cX8_findBest 115 = .ok (.getfield 47, 3) := by decide +kernel
theorem dX8_findBest_118 : decode cX8_findBest 118 = .ok (.aload_n 0, 1) := by decide +kernel
theorem dX8_findBest_119 : decode cX8_findBest 119 = .ok (.getfield 240, 3) := by decide +kernel
theorem dX8_findBest_122 : decode cX8_findBest 122 = .ok (.iload 4, 2) := by decide +kernel
theorem dX8_findBest_124 : decode cX8_findBest 124 = .ok (.isub, 1) := by decide +kernel
theorem dX8_findBest_125 : decode cX8_findBest 125 = .ok (.iload 5, 2) := by decide +kernel
theorem dX8_findBest_127 : decode cX8_findBest 127 = .ok (.iastore, 1) := by decide +kernel
theorem dX8_findBest_128 : decode cX8_findBest 128 = .ok (.iload 5, 2) := by decide +kernel
theorem dX8_findBest_130 : decode cX8_findBest 130 = .ok (.istore_n 3, 1) := by decide +kernel
theorem dX8_findBest_131 : decode cX8_findBest 131 = .ok (.iinc 4 (-1), 3) := by decide +kernel
theorem dX8_findBest_134 : decode cX8_findBest 134 = .ok (.goto (-105), 3) := by decide +kernel
theorem dX8_findBest_137 : decode cX8_findBest 137 = .ok (.return_, 1) := by decide +kernel
theorem dX8_entry_0 : decode cX8_entry 0 = .ok (.aload_n 0, 1) := by decide +kernel
theorem dX8_entry_1 : decode cX8_entry 1 = .ok (.iload_n 1, 1) := by decide +kernel
theorem dX8_entry_2 : decode cX8_entry 2 = .ok (.iload_n 2, 1) := by decide +kernel
theorem dX8_entry_3 : decode cX8_entry 3 = .ok (.invokevirtual 210, 3) := by decide +kernel
theorem dX8_entry_6 : decode cX8_entry 6 = .ok (.ifCond .eq 8, 3) := by decide +kernel
theorem dX8_entry_9 : decode cX8_entry 9 = .ok (.iload_n 3, 1) := by decide +kernel
theorem dX8_entry_10 : decode cX8_entry 10 = .ok (.iconst (-1), 1) := by decide +kernel
theorem dX8_entry_11 : decode cX8_entry 11 = .ok (.if_icmp .ge 5, 3) := by decide +kernel
theorem dX8_entry_14 : decode cX8_entry 14 = .ok (.iconst (-1), 1) := by decide +kernel
theorem dX8_entry_15 : decode cX8_entry 15 = .ok (.ireturn, 1) := by decide +kernel
theorem dX8_entry_16 : decode cX8_entry 16 = .ok (.aload_n 0, 1) := by decide +kernel
theorem dX8_entry_17 : decode cX8_entry 17 = .ok (.iload_n 1, 1) := by decide +kernel
theorem dX8_entry_18 : decode cX8_entry 18 = .ok (.iload_n 2, 1) := by decide +kernel
theorem dX8_entry_19 : decode cX8_entry 19 = .ok (.invokevirtual 226, 3) := by decide +kernel
theorem dX8_entry_22 : decode cX8_entry 22 = .ok (.iload_n 3, 1) := by decide +kernel
theorem dX8_entry_23 : decode cX8_entry 23 = .ok (.ifCond .ge 10, 3) := by decide +kernel
theorem dX8_entry_26 : decode cX8_entry 26 = .ok (.aload_n 0, 1) := by decide +kernel
theorem dX8_entry_27 : decode cX8_entry 27 = .ok (.getfield 216, 3) := by decide +kernel
theorem dX8_entry_30 : decode cX8_entry 30 = .ok (.goto 26, 3) := by decide +kernel
theorem dX8_entry_33 : decode cX8_entry 33 = .ok (.iload_n 3, 1) := by decide +kernel
theorem dX8_entry_34 : decode cX8_entry 34 = .ok (.aload_n 0, 1) := by decide +kernel
theorem dX8_entry_35 : decode cX8_entry 35 = .ok (.getfield 216, 3) := by decide +kernel
theorem dX8_entry_38 : decode cX8_entry 38 = .ok (.if_icmp .ge 16, 3) := by decide +kernel
theorem dX8_entry_41 : decode cX8_entry 41 = .ok (.aload_n 0, 1) := by decide +kernel
theorem dX8_entry_42 : decode cX8_entry 42 = .ok (.getfield 37, 3) := by decide +kernel
theorem dX8_entry_45 : decode cX8_entry 45 = .ok (.iload_n 3, 1) := by decide +kernel
theorem dX8_entry_46 : decode cX8_entry 46 = .ok (.laload, 1) := by decide +kernel
theorem dX8_entry_47 : decode cX8_entry 47 = .ok (.l2i, 1) := by decide +kernel
theorem dX8_entry_48 : decode cX8_entry 48 = .ok (.ldc 167, 2) := by decide +kernel
theorem dX8_entry_50 : decode cX8_entry 50 = .ok (.iadd, 1) := by decide +kernel
theorem dX8_entry_51 : decode cX8_entry 51 = .ok (.goto 5, 3) := by decide +kernel
theorem dX8_entry_54 : decode cX8_entry 54 = .ok (.bipush (-4), 2) := by decide +kernel
theorem dX8_entry_56 : decode cX8_entry 56 = .ok (.ireturn, 1) := by decide +kernel
theorem dX8_year_0 : decode cX8_year 0 = .ok (.aload_n 0, 1) := by decide +kernel
theorem dX8_year_1 : decode cX8_year 1 = .ok (.iload_n 1, 1) := by decide +kernel
theorem dX8_year_2 : decode cX8_year 2 = .ok (.iload_n 2, 1) := by decide +kernel
theorem dX8_year_3 : decode cX8_year 3 = .ok (.invokevirtual 210, 3) := by decide +kernel
theorem dX8_year_6 : decode cX8_year 6 = .ok (.ifCond .eq 7, 3) := by decide +kernel
theorem dX8_year_9 : decode cX8_year 9 = .ok (.iload_n 3, 1) := by decide +kernel
theorem dX8_year_10 : decode cX8_year 10 = .ok (.ifCond .ge 5, 3) := by decide +kernel
theorem dX8_year_13 : decode cX8_year 13 = .ok (.iconst (-1), 1) := by decide +kernel
theorem dX8_year_14 : decode cX8_year 14 = .ok (.ireturn, 1) := by decide +kernel
theorem dX8_year_15 : decode cX8_year 15 = .ok (.aload_n 0, 1) := by decide +kernel
theorem dX8_year_16 : decode cX8_year 16 = .ok (.iload_n 1, 1) := by decide +kernel
theorem dX8_year_17 : decode cX8_year 17 = .ok (.iload_n 2, 1) := by decide +kernel
theorem dX8_year_18 : decode cX8_year 18 = .ok (.invokevirtual 226, 3) := by decide +kernel
theorem dX8_year_21 : decode cX8_year 21 = .ok (.iload_n 3, 1) := by decide +kernel
theorem dX8_year_22 : decode cX8_year 22 = .ok (.aload_n 0, 1) := by decide +kernel
theorem dX8_year_23 : decode cX8_year 23 = .ok (.getfield 216, 3) := by decide +kernel
theorem dX8_year_26 : decode cX8_year 26 = .ok (.if_icmp .ge 12, 3) := by decide +kernel
theorem dX8_year_29 : decode cX8_year 29 = .ok (.aload_n 0, 1) := by decide +kernel
theorem dX8_year_30 : decode cX8_year 30 = .ok (.getfield 41, 3) := by decide +kernel
theorem dX8_year_33 : decode cX8_year 33 = .ok (.iload_n 3, 1) := by decide +kernel
theorem dX8_year_34 : decode cX8_year 34 = .ok (.iaload, 1) := by decide +kernel
theorem dX8_year_35 : decode cX8_year 35 = .ok (.goto 5, 3) := by decide +kernel
theorem dX8_year_38 : decode cX8_year 38 = .ok (.bipush (-4), 2) := by decide +kernel
theorem dX8_year_40 : decode cX8_year 40 = .ok (.ireturn, 1) := by decide +kernel
theorem dX8_spread_0 : decode cX8_spread 0 = .ok (.aload_n 0, 1) := by decide +kernel
theorem dX8_spread_1 : decode cX8_spread 1 = .ok (.iload_n 1, 1) := by decide +kernel
theorem dX8_spread_2 : decode cX8_spread 2 = .ok (.iload_n 2, 1) := by decide +kernel
theorem dX8_spread_3 : decode cX8_spread 3 = .ok (.invokevirtual 210, 3) := by decide +kernel
theorem dX8_spread_6 : decode cX8_spread 6 = .ok (.ifCond .ne 7, 3) := by decide +kernel
theorem dX8_spread_9 : decode cX8_spread 9 = .ok (.ldc2_w 243, 3) := by decide +kernel
theorem dX8_spread_12 : decode cX8_spread 12 = .ok (.lreturn, 1) := by decide +kernel
theorem dX8_spread_13 : decode cX8_spread 13 = .ok (.aload_n 0, 1) := by decide +kernel
theorem dX8_spread_14 : decode cX8_spread 14 = .ok (.iload_n 1, 1) := by decide +kernel
theorem dX8_spread_15 : decode cX8_spread 15 = .ok (.iload_n 2, 1) := by decide +kernel
theorem dX8_spread_16 : decode cX8_spread 16 = .ok (.invokevirtual 226, 3) := by decide +kernel
theorem dX8_spread_19 : decode cX8_spread 19 = .ok (.iload_n 3, 1) := by decide +kernel
theorem dX8_spread_20 : decode cX8_spread 20 = .ok (.i2l, 1) := by decide +kernel
theorem dX8_spread_21 : decode cX8_spread 21 = .ok (.lconst 0, 1) := by decide +kernel
theorem dX8_spread_22 : decode cX8_spread 22 = .ok (.aload_n 0, 1) := by decide +kernel
theorem dX8_spread_23 : decode cX8_spread 23 = .ok (.getfield 216, 3) := by decide +kernel
theorem dX8_spread_26 : decode cX8_spread 26 = .ok (.iconst 1, 1) := by decide +kernel
theorem dX8_spread_27 : decode cX8_spread 27 = .ok (.isub, 1) := by decide +kernel
theorem dX8_spread_28 : decode cX8_spread 28 = .ok (.i2l, 1) := by decide +kernel
theorem dX8_spread_29 : decode cX8_spread 29 = .ok (.invokestatic 98, 3) := by decide +kernel
theorem dX8_spread_32 : decode cX8_spread 32 = .ok (.ifCond .eq 31, 3) := by decide +kernel
theorem dX8_spread_35 : decode cX8_spread 35 = .ok (.iload 4, 2) := by decide +kernel
theorem dX8_spread_37 : decode cX8_spread 37 = .ok (.i2l, 1) := by decide +kernel
theorem dX8_spread_38 : decode cX8_spread 38 = .ok (.iload_n 3, 1) := by decide +kernel
theorem dX8_spread_39 : decode cX8_spread 39 = .ok (.i2l, 1) := by decide +kernel
theorem dX8_spread_40 : decode cX8_spread 40 = .ok (.aload_n 0, 1) := by decide +kernel
theorem dX8_spread_41 : decode cX8_spread 41 = .ok (.getfield 216, 3) := by decide +kernel
theorem dX8_spread_44 : decode cX8_spread 44 = .ok (.iconst 1, 1) := by decide +kernel
theorem dX8_spread_45 : decode cX8_spread 45 = .ok (.isub, 1) := by decide +kernel
theorem dX8_spread_46 : decode cX8_spread 46 = .ok (.i2l, 1) := by decide +kernel
theorem dX8_spread_47 : decode cX8_spread 47 = .ok (.invokestatic 98, 3) := by decide +kernel
theorem dX8_spread_50 : decode cX8_spread 50 = .ok (.ifCond .eq 13, 3) := by decide +kernel
theorem dX8_spread_53 : decode cX8_spread 53 = .ok (.aload_n 0, 1) := by decide +kernel
theorem dX8_spread_54 : decode cX8_spread 54 = .ok (.iload_n 3, 1) := by decide +kernel
theorem dX8_spread_55 : decode cX8_spread 55 = .ok (.iload 4, 2) := by decide +kernel
theorem dX8_spread_57 : decode cX8_spread 57 = .ok (.invokevirtual 231, 3) := by decide +kernel
theorem dX8_spread_60 : decode cX8_spread 60 = .ok (.goto 6, 3) := by decide +kernel
theorem dX8_spread_63 : decode cX8_spread 63 = .ok (.ldc2_w 243, 3) := by decide +kernel
theorem dX8_spread_66 : decode cX8_spread 66 = .ok (.lreturn, 1) := by decide +kernel
theorem dX8_split_0 : decode cX8_split 0 = .ok (.aload_n 0, 1) := by decide +kernel
theorem dX8_split_1 : decode cX8_split 1 = .ok (.iload_n 1, 1) := by decide +kernel
theorem dX8_split_2 : decode cX8_split 2 = .ok (.iload_n 2, 1) := by decide +kernel
theorem dX8_split_3 : decode cX8_split 3 = .ok (.invokevirtual 210, 3) := by decide +kernel
theorem dX8_split_6 : decode cX8_split 6 = .ok (.ifCond .eq 8, 3) := by decide +kernel
theorem dX8_split_9 : decode cX8_split 9 = .ok (.iload_n 3, 1) := by decide +kernel
theorem dX8_split_10 : decode cX8_split 10 = .ok (.iconst (-1), 1) := by decide +kernel
theorem dX8_split_11 : decode cX8_split 11 = .ok (.if_icmp .ge 5, 3) := by decide +kernel
theorem dX8_split_14 : decode cX8_split 14 = .ok (.iconst (-1), 1) := by decide +kernel
theorem dX8_split_15 : decode cX8_split 15 = .ok (.ireturn, 1) := by decide +kernel
theorem dX8_split_16 : decode cX8_split 16 = .ok (.aload_n 0, 1) := by decide +kernel
theorem dX8_split_17 : decode cX8_split 17 = .ok (.iload_n 1, 1) := by decide +kernel
theorem dX8_split_18 : decode cX8_split 18 = .ok (.iload_n 2, 1) := by decide +kernel
theorem dX8_split_19 : decode cX8_split 19 = .ok (.invokevirtual 245, 3) := by decide +kernel
theorem dX8_split_22 : decode cX8_split 22 = .ok (.iload_n 3, 1) := by decide +kernel
theorem dX8_split_23 : decode cX8_split 23 = .ok (.ifCond .ge 10, 3) := by decide +kernel
theorem dX8_split_26 : decode cX8_split 26 = .ok (.aload_n 0, 1) := by decide +kernel
theorem dX8_split_27 : decode cX8_split 27 = .ok (.getfield 240, 3) := by decide +kernel
theorem dX8_split_30 : decode cX8_split 30 = .ok (.goto 27, 3) := by decide +kernel
theorem dX8_split_33 : decode cX8_split 33 = .ok (.iload_n 3, 1) := by decide +kernel
theorem dX8_split_34 : decode cX8_split 34 = .ok (.aload_n 0, 1) := by decide +kernel
theorem dX8_split_35 : decode cX8_split 35 = .ok (.getfield 240, 3) := by decide +kernel
theorem dX8_split_38 : decode cX8_split 38 = .ok (.if_icmp .ge 17, 3) := by decide +kernel
theorem dX8_split_41 : decode cX8_split 41 = .ok (.aload_n 0, 1) := by decide +kernel
theorem dX8_split_42 : decode cX8_split 42 = .ok (.getfield 41, 3) := by decide +kernel
theorem dX8_split_45 : decode cX8_split 45 = .ok (.aload_n 0, 1) := by decide +kernel
theorem dX8_split_46 : decode cX8_split 46 = .ok (.getfield 47, 3) := by decide +kernel
theorem dX8_split_49 : decode cX8_split 49 = .ok (.iload_n 3, 1) := by decide +kernel
theorem dX8_split_50 : decode cX8_split 50 = .ok (.iaload, 1) := by decide +kernel
theorem dX8_split_51 : decode cX8_split 51 = .ok (.iaload, 1) := by decide +kernel
theorem dX8_split_52 : decode cX8_split 52 = .ok (.goto 5, 3) := by decide +kernel
theorem dX8_split_55 : decode cX8_split 55 = .ok (.bipush (-4), 2) := by decide +kernel
theorem dX8_split_57 : decode cX8_split 57 = .ok (.ireturn, 1) := by decide +kernel
theorem dX8_cost_0 : decode cX8_cost 0 = .ok (.aload_n 0, 1) := by decide +kernel
theorem dX8_cost_1 : decode cX8_cost 1 = .ok (.iload_n 1, 1) := by decide +kernel
theorem dX8_cost_2 : decode cX8_cost 2 = .ok (.iload_n 2, 1) := by decide +kernel
theorem dX8_cost_3 : decode cX8_cost 3 = .ok (.invokevirtual 210, 3) := by decide +kernel
theorem dX8_cost_6 : decode cX8_cost 6 = .ok (.ifCond .ne 7, 3) := by decide +kernel
theorem dX8_cost_9 : decode cX8_cost 9 = .ok (.ldc2_w 243, 3) := by decide +kernel
theorem dX8_cost_12 : decode cX8_cost 12 = .ok (.lreturn, 1) := by decide +kernel
theorem dX8_cost_13 : decode cX8_cost 13 = .ok (.aload_n 0, 1) := by decide +kernel
theorem dX8_cost_14 : decode cX8_cost 14 = .ok (.iload_n 1, 1) := by decide +kernel
theorem dX8_cost_15 : decode cX8_cost 15 = .ok (.iload_n 2, 1) := by decide +kernel
theorem dX8_cost_16 : decode cX8_cost 16 = .ok (.invokevirtual 245, 3) := by decide +kernel
theorem dX8_cost_19 : decode cX8_cost 19 = .ok (.aload_n 0, 1) := by decide +kernel
theorem dX8_cost_20 : decode cX8_cost 20 = .ok (.getfield 44, 3) := by decide +kernel
theorem dX8_cost_23 : decode cX8_cost 23 = .ok (.bipush 17, 2) := by decide +kernel
theorem dX8_cost_25 : decode cX8_cost 25 = .ok (.aload_n 0, 1) := by decide +kernel
theorem dX8_cost_26 : decode cX8_cost 26 = .ok (.getfield 240, 3) := by decide +kernel
theorem dX8_cost_29 : decode cX8_cost 29 = .ok (.imul, 1) := by decide +kernel
theorem dX8_cost_30 : decode cX8_cost 30 = .ok (.laload, 1) := by decide +kernel
theorem dX8_cost_31 : decode cX8_cost 31 = .ok (.ldc2_w 223, 3) := by decide +kernel
theorem dX8_cost_34 : decode cX8_cost 34 = .ok (.aload_n 0, 1) := by decide +kernel
theorem dX8_cost_35 : decode cX8_cost 35 = .ok (.getfield 19, 3) := by decide +kernel
theorem dX8_cost_38 : decode cX8_cost 38 = .ok (.bipush 96, 2) := by decide +kernel
theorem dX8_cost_40 : decode cX8_cost 40 = .ok (.iaload, 1) := by decide +kernel
theorem dX8_cost_41 : decode cX8_cost 41 = .ok (.i2l, 1) := by decide +kernel
theorem dX8_cost_42 : decode cX8_cost 42 = .ok (.lmul, 1) := by decide +kernel
theorem dX8_cost_43 : decode cX8_cost 43 = .ok (.aload_n 0, 1) := by decide +kernel
theorem dX8_cost_44 : decode cX8_cost 44 = .ok (.getfield 240, 3) := by decide +kernel
theorem dX8_cost_47 : decode cX8_cost 47 = .ok (.i2l, 1) := by decide +kernel
theorem dX8_cost_48 : decode cX8_cost 48 = .ok (.lmul, 1) := by decide +kernel
theorem dX8_cost_49 : decode cX8_cost 49 = .ok (.ladd, 1) := by decide +kernel
theorem dX8_cost_50 : decode cX8_cost 50 = .ok (.lreturn, 1) := by decide +kernel
theorem dX8_spreads_0 : decode cX8_spreads 0 = .ok (.aload_n 0, 1) := by decide +kernel
theorem dX8_spreads_1 : decode cX8_spreads 1 = .ok (.iload_n 1, 1) := by decide +kernel
theorem dX8_spreads_2 : decode cX8_spreads 2 = .ok (.iload_n 2, 1) := by decide +kernel
theorem dX8_spreads_3 : decode cX8_spreads 3 = .ok (.invokevirtual 210, 3) := by decide +kernel
theorem dX8_spreads_6 : decode cX8_spreads 6 = .ok (.ifCond .eq 7, 3) := by decide +kernel
theorem dX8_spreads_9 : decode cX8_spreads 9 = .ok (.iload_n 3, 1) := by decide +kernel
theorem dX8_spreads_10 : decode cX8_spreads 10 = .ok (.ifCond .ge 7, 3) := by decide +kernel
theorem dX8_spreads_13 : decode cX8_spreads 13 = .ok (.ldc2_w 243, 3) := by decide +kernel
theorem dX8_spreads_16 : decode cX8_spreads 16 = .ok (.lreturn, 1) := by decide +kernel
theorem dX8_spreads_17 : decode cX8_spreads 17 = .ok (.aload_n 0, 1) := by decide +kernel
theorem dX8_spreads_18 : decode cX8_spreads 18 = .ok (.iload_n 1, 1) := by decide +kernel
theorem dX8_spreads_19 : decode cX8_spreads 19 = .ok (.iload_n 2, 1) := by decide +kernel
theorem dX8_spreads_20 : decode cX8_spreads 20 = .ok (.invokevirtual 234, 3) := by decide +kernel
theorem dX8_spreads_23 : decode cX8_spreads 23 = .ok (.iload_n 3, 1) := by decide +kernel
theorem dX8_spreads_24 : decode cX8_spreads 24 = .ok (.bipush 16, 2) := by decide +kernel
theorem dX8_spreads_26 : decode cX8_spreads 26 = .ok (.if_icmp .ge 31, 3) := by decide +kernel
theorem dX8_spreads_29 : decode cX8_spreads 29 = .ok (.aload_n 0, 1) := by decide +kernel
theorem dX8_spreads_30 : decode cX8_spreads 30 = .ok (.getfield 44, 3) := by decide +kernel
theorem dX8_spreads_33 : decode cX8_spreads 33 = .ok (.bipush 17, 2) := by decide +kernel
theorem dX8_spreads_35 : decode cX8_spreads 35 = .ok (.iload_n 3, 1) := by decide +kernel
theorem dX8_spreads_36 : decode cX8_spreads 36 = .ok (.imul, 1) := by decide +kernel
theorem dX8_spreads_37 : decode cX8_spreads 37 = .ok (.laload, 1) := by decide +kernel
theorem dX8_spreads_38 : decode cX8_spreads 38 = .ok (.ldc2_w 229, 3) := by decide +kernel
theorem dX8_spreads_41 : decode cX8_spreads 41 = .ok (.lcmp, 1) := by decide +kernel
theorem dX8_spreads_42 : decode cX8_spreads 42 = .ok (.ifCond .ge 15, 3) := by decide +kernel
theorem dX8_spreads_45 : decode cX8_spreads 45 = .ok (.aload_n 0, 1) := by decide +kernel
theorem dX8_spreads_46 : decode cX8_spreads 46 = .ok (.getfield 44, 3) := by decide +kernel
theorem dX8_spreads_49 : decode cX8_spreads 49 = .ok (.bipush 17, 2) := by decide +kernel
theorem dX8_spreads_51 : decode cX8_spreads 51 = .ok (.iload_n 3, 1) := by decide +kernel
theorem dX8_spreads_52 : decode cX8_spreads 52 = .ok (.imul, 1) := by decide +kernel
theorem dX8_spreads_53 : decode cX8_spreads 53 = .ok (.laload, 1) := by decide +kernel
theorem dX8_spreads_54 : decode cX8_spreads 54 = .ok (.goto 6, 3) := by decide +kernel
theorem dX8_spreads_57 : decode cX8_spreads 57 = .ok (.ldc2_w 248, 3) := by decide +kernel
theorem dX8_spreads_60 : decode cX8_spreads 60 = .ok (.lreturn, 1) := by decide +kernel
theorem dX8_breaks_0 : decode cX8_breaks 0 = .ok (.aload_n 0, 1) := by decide +kernel
theorem dX8_breaks_1 : decode cX8_breaks 1 = .ok (.iload_n 1, 1) := by decide +kernel
theorem dX8_breaks_2 : decode cX8_breaks 2 = .ok (.iload_n 2, 1) := by decide +kernel
theorem dX8_breaks_3 : decode cX8_breaks 3 = .ok (.invokevirtual 210, 3) := by decide +kernel
theorem dX8_breaks_6 : decode cX8_breaks 6 = .ok (.ifCond .eq 15, 3) := by decide +kernel
theorem dX8_breaks_9 : decode cX8_breaks 9 = .ok (.iload_n 3, 1) := by decide +kernel
theorem dX8_breaks_10 : decode cX8_breaks 10 = .ok (.i2l, 1) := by decide +kernel
theorem dX8_breaks_11 : decode cX8_breaks 11 = .ok (.lconst 0, 1) := by decide +kernel
theorem dX8_breaks_12 : decode cX8_breaks 12 = .ok (.ldc2_w 188, 3) := by decide +kernel
theorem dX8_breaks_15 : decode cX8_breaks 15 = .ok (.invokestatic 98, 3) := by decide +kernel
theorem dX8_breaks_18 : decode cX8_breaks 18 = .ok (.ifCond .ne 5, 3) := by decide +kernel
theorem dX8_breaks_21 : decode cX8_breaks 21 = .ok (.iconst (-1), 1) := by decide +kernel
theorem dX8_breaks_22 : decode cX8_breaks 22 = .ok (.ireturn, 1) := by decide +kernel
theorem dX8_breaks_23 : decode cX8_breaks 23 = .ok (.aload_n 0, 1) := by decide +kernel
theorem dX8_breaks_24 : decode cX8_breaks 24 = .ok (.iload_n 1, 1) := by decide +kernel
theorem dX8_breaks_25 : decode cX8_breaks 25 = .ok (.iload_n 2, 1) := by decide +kernel
theorem dX8_breaks_26 : decode cX8_breaks 26 = .ok (.invokevirtual 234, 3) := by decide +kernel
theorem dX8_breaks_29 : decode cX8_breaks 29 = .ok (.aload_n 0, 1) := by decide +kernel
theorem dX8_breaks_30 : decode cX8_breaks 30 = .ok (.iload_n 3, 1) := by decide +kernel
theorem dX8_breaks_31 : decode cX8_breaks 31 = .ok (.invokevirtual 237, 3) := by decide +kernel
theorem dX8_breaks_34 : decode cX8_breaks 34 = .ok (.ireturn, 1) := by decide +kernel
theorem dX8_least_0 : decode cX8_least 0 = .ok (.aload_n 0, 1) := by decide +kernel
theorem dX8_least_1 : decode cX8_least 1 = .ok (.iload_n 1, 1) := by decide +kernel
theorem dX8_least_2 : decode cX8_least 2 = .ok (.iload_n 2, 1) := by decide +kernel
theorem dX8_least_3 : decode cX8_least 3 = .ok (.invokevirtual 210, 3) := by decide +kernel
theorem dX8_least_6 : decode cX8_least 6 = .ok (.ifCond .eq 7, 3) := by decide +kernel
theorem dX8_least_9 : decode cX8_least 9 = .ok (.iload_n 3, 1) := by decide +kernel
theorem dX8_least_10 : decode cX8_least 10 = .ok (.ifCond .ge 5, 3) := by decide +kernel
theorem dX8_least_13 : decode cX8_least 13 = .ok (.iconst (-1), 1) := by decide +kernel
theorem dX8_least_14 : decode cX8_least 14 = .ok (.ireturn, 1) := by decide +kernel
theorem dX8_least_15 : decode cX8_least 15 = .ok (.aload_n 0, 1) := by decide +kernel
theorem dX8_least_16 : decode cX8_least 16 = .ok (.iload_n 1, 1) := by decide +kernel
theorem dX8_least_17 : decode cX8_least 17 = .ok (.iload_n 2, 1) := by decide +kernel
theorem dX8_least_18 : decode cX8_least 18 = .ok (.invokevirtual 234, 3) := by decide +kernel
theorem dX8_least_21 : decode cX8_least 21 = .ok (.iconst 0, 1) := by decide +kernel
theorem dX8_least_22 : decode cX8_least 22 = .ok (.istore 4, 2) := by decide +kernel
theorem dX8_least_24 : decode cX8_least 24 = .ok (.iload 4, 2) := by decide +kernel
theorem dX8_least_26 : decode cX8_least 26 = .ok (.ldc 83, 2) := by decide +kernel
theorem dX8_least_28 : decode cX8_least 28 = .ok (.if_icmp .gt 22, 3) := by decide +kernel
theorem dX8_least_31 : decode cX8_least 31 = .ok (.aload_n 0, 1) := by decide +kernel
theorem dX8_least_32 : decode cX8_least 32 = .ok (.iload 4, 2) := by decide +kernel
theorem dX8_least_34 : decode cX8_least 34 = .ok (.invokevirtual 237, 3) := by decide +kernel
theorem dX8_least_37 : decode cX8_least 37 = .ok (.iload_n 3, 1) := by decide +kernel
theorem dX8_least_38 : decode cX8_least 38 = .ok (.if_icmp .gt 6, 3) := by decide +kernel
theorem dX8_least_41 : decode cX8_least 41 = .ok (.iload 4, 2) := by decide +kernel
theorem dX8_least_43 : decode cX8_least 43 = .ok (.ireturn, 1) := by decide +kernel
theorem dX8_least_44 : decode cX8_least 44 = .ok (.iinc 4 1, 3) := by decide +kernel
theorem dX8_least_47 : decode cX8_least 47 = .ok (.goto (-23), 3) := by decide +kernel
theorem dX8_least_50 : decode cX8_least 50 = .ok (.bipush (-4), 2) := by decide +kernel
theorem dX8_least_52 : decode cX8_least 52 = .ok (.ireturn, 1) := by decide +kernel
theorem dX8_findBreaks_0 : decode cX8_findBreaks 0 = .ok (.iconst 0, 1) := by decide +kernel
theorem dX8_findBreaks_1 : decode cX8_findBreaks 1 = .ok (.istore_n 1, 1) := by decide +kernel
theorem dX8_findBreaks_2 : decode cX8_findBreaks 2 = .ok (.iload_n 1, 1) := by decide +kernel
theorem dX8_findBreaks_3 : decode cX8_findBreaks 3 = .ok (.aload_n 0, 1) := by decide +kernel
theorem dX8_findBreaks_4 : decode cX8_findBreaks 4 = .ok (.getfield 148, 3) := by decide +kernel
theorem dX8_findBreaks_7 : decode cX8_findBreaks 7 = .ok (.if_icmp .ge 127, 3) := by decide +kernel
theorem dX8_findBreaks_10 : decode cX8_findBreaks 10 = .ok (.iload_n 1, 1) := by decide +kernel
theorem dX8_findBreaks_11 : decode cX8_findBreaks 11 = .ok (.iconst 1, 1) := by decide +kernel
theorem dX8_findBreaks_12 : decode cX8_findBreaks 12 = .ok (.iadd, 1) := by decide +kernel
theorem dX8_findBreaks_13 : decode cX8_findBreaks 13 = .ok (.istore_n 2, 1) := by decide +kernel
theorem dX8_findBreaks_14 : decode cX8_findBreaks 14 = .ok (.iload_n 2, 1) := by decide +kernel
theorem dX8_findBreaks_15 : decode cX8_findBreaks 15 = .ok (.aload_n 0, 1) := by decide +kernel
theorem dX8_findBreaks_16 : decode cX8_findBreaks 16 = .ok (.getfield 148, 3) := by decide +kernel
theorem dX8_findBreaks_19 : decode cX8_findBreaks 19 = .ok (.if_icmp .ge 109, 3) := by decide +kernel
theorem dX8_findBreaks_22 : decode cX8_findBreaks 22 = .ok (.iconst 0, 1) := by decide +kernel
theorem dX8_findBreaks_23 : decode cX8_findBreaks 23 = .ok (.istore_n 3, 1) := by decide +kernel
theorem dX8_findBreaks_24 : decode cX8_findBreaks 24 = .ok (.aload_n 0, 1) := by decide +kernel
theorem dX8_findBreaks_25 : decode cX8_findBreaks 25 = .ok (.iload_n 1, 1) := by decide +kernel
theorem dX8_findBreaks_26 : decode cX8_findBreaks 26 = .ok (.iload_n 2, 1) := by decide +kernel
theorem dX8_findBreaks_27 : decode cX8_findBreaks 27 = .ok (.invokevirtual 213, 3) := by decide +kernel
theorem dX8_findBreaks_30 : decode cX8_findBreaks 30 = .ok (.ifCond .eq 44, 3) := by decide +kernel
theorem dX8_findBreaks_33 : decode cX8_findBreaks 33 = .ok (.aload_n 0, 1) := by decide +kernel
theorem dX8_findBreaks_34 : decode cX8_findBreaks 34 = .ok (.iload_n 1, 1) := by decide +kernel
theorem dX8_findBreaks_35 : decode cX8_findBreaks 35 = .ok (.iload_n 2, 1) := by decide +kernel
theorem dX8_findBreaks_36 : decode cX8_findBreaks 36 = .ok (.invokevirtual 245, 3) := by decide +kernel
theorem dX8_findBreaks_39 : decode cX8_findBreaks 39 = .ok (.iconst 0, 1) := by decide +kernel
theorem dX8_findBreaks_40 : decode cX8_findBreaks 40 = .ok (.istore 4, 2) := by decide +kernel
theorem dX8_findBreaks_42 : decode cX8_findBreaks 42 = .ok (.iload 4, 2) := by decide +kernel
theorem dX8_findBreaks_44 : decode cX8_findBreaks 44 = .ok (.aload_n 0, 1) := by decide +kernel
theorem dX8_findBreaks_45 : decode cX8_findBreaks 45 = .ok (.getfield 240, 3) := by decide +kernel
theorem dX8_findBreaks_48 : decode cX8_findBreaks 48 = .ok (.if_icmp .ge 26, 3) := by decide +kernel
theorem dX8_findBreaks_51 : decode cX8_findBreaks 51 = .ok (.iload_n 3, 1) := by decide +kernel
theorem dX8_findBreaks_52 : decode cX8_findBreaks 52 = .ok (.iconst 1, 1) := by decide +kernel
theorem dX8_findBreaks_53 : decode cX8_findBreaks 53 = .ok (.aload_n 0, 1) := by decide +kernel
theorem dX8_findBreaks_54 : decode cX8_findBreaks 54 = .ok (.getfield 41, 3) := by decide +kernel
theorem dX8_findBreaks_57 : decode cX8_findBreaks 57 = .ok (.aload_n 0, 1) := by decide +kernel
theorem dX8_findBreaks_58 : decode cX8_findBreaks 58 = .ok (.getfield 47, 3) := by decide +kernel
theorem dX8_findBreaks_61 : decode cX8_findBreaks 61 = .ok (.iload 4, 2) := by decide +kernel
theorem dX8_findBreaks_63 : decode cX8_findBreaks 63 = .ok (.iaload, 1) := by decide +kernel
theorem dX8_findBreaks_64 : decode cX8_findBreaks 64 = .ok (.iaload, 1) := by decide +kernel
theorem dX8_findBreaks_65 : decode cX8_findBreaks 65 = .ok (.ishl, 1) := by decide +kernel
theorem dX8_findBreaks_66 : decode cX8_findBreaks 66 = .ok (.ior, 1) := by decide +kernel
theorem dX8_findBreaks_67 : decode cX8_findBreaks 67 = .ok (.istore_n 3, 1) := by decide +kernel
theorem dX8_findBreaks_68 : decode cX8_findBreaks 68 = .ok (.iinc 4 1, 3) := by decide +kernel
theorem dX8_findBreaks_71 : decode cX8_findBreaks 71 = .ok (.goto (-29), 3) := by decide +kernel
theorem dX8_findBreaks_74 : decode cX8_findBreaks 74 = .ok (.aload_n 0, 1) := by decide +kernel
theorem dX8_findBreaks_75 : decode cX8_findBreaks 75 = .ok (.getfield 50, 3) := by decide +kernel
theorem dX8_findBreaks_78 : decode cX8_findBreaks 78 = .ok (.bipush 6, 2) := by decide +kernel
theorem dX8_findBreaks_80 : decode cX8_findBreaks 80 = .ok (.iload_n 1, 1) := by decide +kernel
theorem dX8_findBreaks_81 : decode cX8_findBreaks 81 = .ok (.imul, 1) := by decide +kernel
theorem dX8_findBreaks_82 : decode cX8_findBreaks 82 = .ok (.iload_n 2, 1) := by decide +kernel
theorem dX8_findBreaks_83 : decode cX8_findBreaks 83 = .ok (.iadd, 1) := by decide +kernel
theorem dX8_findBreaks_84 : decode cX8_findBreaks 84 = .ok (.iload_n 3, 1) := by decide +kernel
theorem dX8_findBreaks_85 : decode cX8_findBreaks 85 = .ok (.iastore, 1) := by decide +kernel
theorem dX8_findBreaks_86 : decode cX8_findBreaks 86 = .ok (.aload_n 0, 1) := by decide +kernel
theorem dX8_findBreaks_87 : decode cX8_findBreaks 87 = .ok (.getfield 50, 3) := by decide +kernel
theorem dX8_findBreaks_90 : decode cX8_findBreaks 90 = .ok (.bipush 6, 2) := by decide +kernel
theorem dX8_findBreaks_92 : decode cX8_findBreaks 92 = .ok (.iload_n 2, 1) := by decide +kernel
theorem dX8_findBreaks_93 : decode cX8_findBreaks 93 = .ok (.imul, 1) := by decide +kernel
theorem dX8_findBreaks_94 : decode cX8_findBreaks 94 = .ok (.iload_n 1, 1) := by decide +kernel
theorem dX8_findBreaks_95 : decode cX8_findBreaks 95 = .ok (.iadd, 1) := by decide +kernel
theorem dX8_findBreaks_96 : decode cX8_findBreaks 96 = .ok (.iload_n 3, 1) := by decide +kernel
theorem dX8_findBreaks_97 : decode cX8_findBreaks 97 = .ok (.iastore, 1) := by decide +kernel
theorem dX8_findBreaks_98 : decode cX8_findBreaks 98 = .ok (.aload_n 0, 1) := by decide +kernel
theorem dX8_findBreaks_99 : decode cX8_findBreaks 99 = .ok (.getfield 53, 3) := by decide +kernel
theorem dX8_findBreaks_102 : decode cX8_findBreaks 102 = .ok (.bipush 6, 2) := by decide +kernel
theorem dX8_findBreaks_104 : decode cX8_findBreaks 104 = .ok (.iload_n 1, 1) := by decide +kernel
theorem dX8_findBreaks_105 : decode cX8_findBreaks 105 = .ok (.imul, 1) := by decide +kernel
theorem dX8_findBreaks_106 : decode cX8_findBreaks 106 = .ok (.iload_n 2, 1) := by decide +kernel
theorem dX8_findBreaks_107 : decode cX8_findBreaks 107 = .ok (.iadd, 1) := by decide +kernel
theorem dX8_findBreaks_108 : decode cX8_findBreaks 108 = .ok (.iload_n 3, 1) := by decide +kernel
theorem dX8_findBreaks_109 : decode cX8_findBreaks 109 = .ok (.iastore, 1) := by decide +kernel
theorem dX8_findBreaks_110 : decode cX8_findBreaks 110 = .ok (.aload_n 0, 1) := by decide +kernel
theorem dX8_findBreaks_111 : decode cX8_findBreaks 111 = .ok (.getfield 53, 3) := by decide +kernel
theorem dX8_findBreaks_114 : decode cX8_findBreaks 114 = .ok (.bipush 6, 2) := by decide +kernel
theorem dX8_findBreaks_116 : decode cX8_findBreaks 116 = .ok (.iload_n 2, 1) := by decide +kernel
theorem dX8_findBreaks_117 : decode cX8_findBreaks 117 = .ok (.imul, 1) := by decide +kernel
theorem dX8_findBreaks_118 : decode cX8_findBreaks 118 = .ok (.iload_n 1, 1) := by decide +kernel
theorem dX8_findBreaks_119 : decode cX8_findBreaks 119 = .ok (.iadd, 1) := by decide +kernel
theorem dX8_findBreaks_120 : decode cX8_findBreaks 120 = .ok (.iload_n 3, 1) := by decide +kernel
theorem dX8_findBreaks_121 : decode cX8_findBreaks 121 = .ok (.iastore, 1) := by decide +kernel
theorem dX8_findBreaks_122 : decode cX8_findBreaks 122 = .ok (.iinc 2 1, 3) := by decide +kernel
theorem dX8_findBreaks_125 : decode cX8_findBreaks 125 = .ok (.goto (-111), 3) := by decide +kernel
theorem dX8_findBreaks_128 : decode cX8_findBreaks 128 = .ok (.iinc 1 1, 3) := by decide +kernel
theorem dX8_findBreaks_131 : decode cX8_findBreaks 131 = .ok (.goto (-129), 3) := by decide +kernel
theorem dX8_findBreaks_134 : decode cX8_findBreaks 134 = .ok (.return_, 1) := by decide +kernel
theorem dX8_withWhom_0 : decode cX8_withWhom 0 = .ok (.iconst 0, 1) := by decide +kernel
theorem dX8_withWhom_1 : decode cX8_withWhom 1 = .ok (.istore 4, 2) := by decide +kernel
theorem dX8_withWhom_3 : decode cX8_withWhom 3 = .ok (.iconst 0, 1) := by decide +kernel
theorem dX8_withWhom_4 : decode cX8_withWhom 4 = .ok (.istore 5, 2) := by decide +kernel
theorem dX8_withWhom_6 : decode cX8_withWhom 6 = .ok (.iload 5, 2) := by decide +kernel
theorem dX8_withWhom_8 : decode cX8_withWhom 8 = .ok (.aload_n 0, 1) := by decide +kernel
theorem dX8_withWhom_9 : decode cX8_withWhom 9 = .ok (.getfield 148, 3) := by decide +kernel
theorem dX8_withWhom_12 : decode cX8_withWhom 12 = .ok (.if_icmp .ge 44, 3) := by decide +kernel
theorem dX8_withWhom_15 : decode cX8_withWhom 15 = .ok (.iload 4, 2) := by decide +kernel
theorem dX8_withWhom_17 : decode cX8_withWhom 17 = .ok (.iload 5, 2) := by decide +kernel
theorem dX8_withWhom_19 : decode cX8_withWhom 19 = .ok (.iload_n 2, 1) := by decide +kernel
theorem dX8_withWhom_20 : decode cX8_withWhom 20 = .ok (.if_icmp .eq 26, 3) := by decide +kernel
theorem dX8_withWhom_23 : decode cX8_withWhom 23 = .ok (.aload_n 1, 1) := by decide +kernel
theorem dX8_withWhom_24 : decode cX8_withWhom 24 = .ok (.bipush 6, 2) := by decide +kernel
theorem dX8_withWhom_26 : decode cX8_withWhom 26 = .ok (.iload_n 2, 1) := by decide +kernel
theorem dX8_withWhom_27 : decode cX8_withWhom 27 = .ok (.imul, 1) := by decide +kernel
theorem dX8_withWhom_28 : decode cX8_withWhom 28 = .ok (.iload 5, 2) := by decide +kernel
theorem dX8_withWhom_30 : decode cX8_withWhom 30 = .ok (.iadd, 1) := by decide +kernel
theorem dX8_withWhom_31 : decode cX8_withWhom 31 = .ok (.iaload, 1) := by decide +kernel
theorem dX8_withWhom_32 : decode cX8_withWhom 32 = .ok (.iload_n 3, 1) := by decide +kernel
theorem dX8_withWhom_33 : decode cX8_withWhom 33 = .ok (.invokestatic 250, 3) := by decide +kernel
theorem dX8_withWhom_36 : decode cX8_withWhom 36 = .ok (.ifCond .eq 10, 3) := by decide +kernel
theorem dX8_withWhom_39 : decode cX8_withWhom 39 = .ok (.iconst 1, 1) := by decide +kernel
theorem dX8_withWhom_40 : decode cX8_withWhom 40 = .ok (.iload 5, 2) := by decide +kernel
theorem dX8_withWhom_42 : decode cX8_withWhom 42 = .ok (.ishl, 1) := by decide +kernel
theorem dX8_withWhom_43 : decode cX8_withWhom 43 = .ok (.goto 4, 3) := by decide +kernel
theorem dX8_withWhom_46 : decode cX8_withWhom 46 = .ok (.iconst 0, 1) := by decide +kernel
theorem dX8_withWhom_47 : decode cX8_withWhom 47 = .ok (.ior, 1) := by decide +kernel
theorem dX8_withWhom_48 : decode cX8_withWhom 48 = .ok (.istore 4, 2) := by decide +kernel
theorem dX8_withWhom_50 : decode cX8_withWhom 50 = .ok (.iinc 5 1, 3) := by decide +kernel
theorem dX8_withWhom_53 : decode cX8_withWhom 53 = .ok (.goto (-47), 3) := by decide +kernel
theorem dX8_withWhom_56 : decode cX8_withWhom 56 = .ok (.iload 4, 2) := by decide +kernel
theorem dX8_withWhom_58 : decode cX8_withWhom 58 = .ok (.ireturn, 1) := by decide +kernel
theorem dX8_ones_0 : decode cX8_ones 0 = .ok (.iconst 0, 1) := by decide +kernel
theorem dX8_ones_1 : decode cX8_ones 1 = .ok (.istore_n 1, 1) := by decide +kernel
theorem dX8_ones_2 : decode cX8_ones 2 = .ok (.iload_n 0, 1) := by decide +kernel
theorem dX8_ones_3 : decode cX8_ones 3 = .ok (.istore_n 2, 1) := by decide +kernel
theorem dX8_ones_4 : decode cX8_ones 4 = .ok (.iload_n 2, 1) := by decide +kernel
theorem dX8_ones_5 : decode cX8_ones 5 = .ok (.ifCond .eq 15, 3) := by decide +kernel
theorem dX8_ones_8 : decode cX8_ones 8 = .ok (.iinc 1 1, 3) := by decide +kernel
theorem dX8_ones_11 : decode cX8_ones 11 = .ok (.iload_n 2, 1) := by decide +kernel
theorem dX8_ones_12 : decode cX8_ones 12 = .ok (.iload_n 2, 1) := by decide +kernel
theorem dX8_ones_13 : decode cX8_ones 13 = .ok (.iconst 1, 1) := by decide +kernel
theorem dX8_ones_14 : decode cX8_ones 14 = .ok (.isub, 1) := by decide +kernel
theorem dX8_ones_15 : decode cX8_ones 15 = .ok (.iand, 1) := by decide +kernel
theorem dX8_ones_16 : decode cX8_ones 16 = .ok (.istore_n 2, 1) := by decide +kernel
theorem dX8_ones_17 : decode cX8_ones 17 = .ok (.goto (-13), 3) := by decide +kernel
theorem dX8_ones_20 : decode cX8_ones 20 = .ok (.iload_n 1, 1) := by decide +kernel
theorem dX8_ones_21 : decode cX8_ones 21 = .ok (.ireturn, 1) := by decide +kernel
theorem dX8_finds_0 : decode cX8_finds 0 = .ok (.aload_n 0, 1) := by decide +kernel
theorem dX8_finds_1 : decode cX8_finds 1 = .ok (.getfield 56, 3) := by decide +kernel
theorem dX8_finds_4 : decode cX8_finds 4 = .ok (.aload_n 0, 1) := by decide +kernel
theorem dX8_finds_5 : decode cX8_finds 5 = .ok (.getfield 253, 3) := by decide +kernel
theorem dX8_finds_8 : decode cX8_finds 8 = .ok (.iload_n 1, 1) := by decide +kernel
theorem dX8_finds_9 : decode cX8_finds 9 = .ok (.iastore, 1) := by decide +kernel
theorem dX8_finds_10 : decode cX8_finds 10 = .ok (.aload_n 0, 1) := by decide +kernel
theorem dX8_finds_11 : decode cX8_finds 11 = .ok (.getfield 59, 3) := by decide +kernel
theorem dX8_finds_14 : decode cX8_finds 14 = .ok (.aload_n 0, 1) := by decide +kernel
theorem dX8_finds_15 : decode cX8_finds 15 = .ok (.getfield 253, 3) := by decide +kernel
theorem dX8_finds_18 : decode cX8_finds 18 = .ok (.iload_n 2, 1) := by decide +kernel
theorem dX8_finds_19 : decode cX8_finds 19 = .ok (.iastore, 1) := by decide +kernel
theorem dX8_finds_20 : decode cX8_finds 20 = .ok (.aload_n 0, 1) := by decide +kernel
theorem dX8_finds_21 : decode cX8_finds 21 = .ok (.getfield 65, 3) := by decide +kernel
theorem dX8_finds_24 : decode cX8_finds 24 = .ok (.aload_n 0, 1) := by decide +kernel
theorem dX8_finds_25 : decode cX8_finds 25 = .ok (.getfield 253, 3) := by decide +kernel
theorem dX8_finds_28 : decode cX8_finds 28 = .ok (.aload_n 0, 1) := by decide +kernel
theorem dX8_finds_29 : decode cX8_finds 29 = .ok (.aload_n 0, 1) := by decide +kernel
theorem dX8_finds_30 : decode cX8_finds 30 = .ok (.getfield 53, 3) := by decide +kernel
theorem dX8_finds_33 : decode cX8_finds 33 = .ok (.iload_n 1, 1) := by decide +kernel
theorem dX8_finds_34 : decode cX8_finds 34 = .ok (.iload_n 2, 1) := by decide +kernel
theorem dX8_finds_35 : decode cX8_finds 35 = .ok (.invokevirtual 256, 3) := by decide +kernel
theorem dX8_finds_38 : decode cX8_finds 38 = .ok (.iastore, 1) := by decide +kernel
theorem dX8_finds_39 : decode cX8_finds 39 = .ok (.aload_n 0, 1) := by decide +kernel
theorem dX8_finds_40 : decode cX8_finds 40 = .ok (.getfield 62, 3) := by decide +kernel
theorem dX8_finds_43 : decode cX8_finds 43 = .ok (.aload_n 0, 1) := by decide +kernel
theorem dX8_finds_44 : decode cX8_finds 44 = .ok (.getfield 253, 3) := by decide +kernel
theorem dX8_finds_47 : decode cX8_finds 47 = .ok (.aload_n 0, 1) := by decide +kernel
theorem dX8_finds_48 : decode cX8_finds 48 = .ok (.getfield 65, 3) := by decide +kernel
theorem dX8_finds_51 : decode cX8_finds 51 = .ok (.aload_n 0, 1) := by decide +kernel
theorem dX8_finds_52 : decode cX8_finds 52 = .ok (.getfield 253, 3) := by decide +kernel
theorem dX8_finds_55 : decode cX8_finds 55 = .ok (.iaload, 1) := by decide +kernel
theorem dX8_finds_56 : decode cX8_finds 56 = .ok (.invokestatic 260, 3) := by decide +kernel
theorem dX8_finds_59 : decode cX8_finds 59 = .ok (.iastore, 1) := by decide +kernel
theorem dX8_finds_60 : decode cX8_finds 60 = .ok (.aload_n 0, 1) := by decide +kernel
theorem dX8_finds_61 : decode cX8_finds 61 = .ok (.dup, 1) := by decide +kernel
theorem dX8_finds_62 : decode cX8_finds 62 = .ok (.getfield 253, 3) := by decide +kernel
theorem dX8_finds_65 : decode cX8_finds 65 = .ok (.iconst 1, 1) := by decide +kernel
theorem dX8_finds_66 : decode cX8_finds 66 = .ok (.iadd, 1) := by decide +kernel
theorem dX8_finds_67 : decode cX8_finds 67 = .ok (.putfield 253, 3) := by decide +kernel
theorem dX8_finds_70 : decode cX8_finds 70 = .ok (.aload_n 0, 1) := by decide +kernel
theorem dX8_finds_71 : decode cX8_finds 71 = .ok (.getfield 19, 3) := by decide +kernel
theorem dX8_finds_74 : decode cX8_finds 74 = .ok (.bipush 100, 2) := by decide +kernel
theorem dX8_finds_76 : decode cX8_finds 76 = .ok (.iaload, 1) := by decide +kernel
theorem dX8_finds_77 : decode cX8_finds 77 = .ok (.istore_n 3, 1) := by decide +kernel
theorem dX8_finds_78 : decode cX8_finds 78 = .ok (.iconst 0, 1) := by decide +kernel
theorem dX8_finds_79 : decode cX8_finds 79 = .ok (.istore 4, 2) := by decide +kernel
theorem dX8_finds_81 : decode cX8_finds 81 = .ok (.iload 4, 2) := by decide +kernel
theorem dX8_finds_83 : decode cX8_finds 83 = .ok (.aload_n 0, 1) := by decide +kernel
theorem dX8_finds_84 : decode cX8_finds 84 = .ok (.getfield 148, 3) := by decide +kernel
theorem dX8_finds_87 : decode cX8_finds 87 = .ok (.if_icmp .ge 93, 3) := by decide +kernel
theorem dX8_finds_90 : decode cX8_finds 90 = .ok (.iload_n 2, 1) := by decide +kernel
theorem dX8_finds_91 : decode cX8_finds 91 = .ok (.iload_n 3, 1) := by decide +kernel
theorem dX8_finds_92 : decode cX8_finds 92 = .ok (.isub, 1) := by decide +kernel
theorem dX8_finds_93 : decode cX8_finds 93 = .ok (.istore 5, 2) := by decide +kernel
theorem dX8_finds_95 : decode cX8_finds 95 = .ok (.iload 5, 2) := by decide +kernel
theorem dX8_finds_97 : decode cX8_finds 97 = .ok (.iload_n 2, 1) := by decide +kernel
theorem dX8_finds_98 : decode cX8_finds 98 = .ok (.iload_n 3, 1) := by decide +kernel
theorem dX8_finds_99 : decode cX8_finds 99 = .ok (.iadd, 1) := by decide +kernel
theorem dX8_finds_100 : decode cX8_finds 100 = .ok (.if_icmp .gt 74, 3) := by decide +kernel
theorem dX8_finds_103 : decode cX8_finds 103 = .ok (.iload 4, 2) := by decide +kernel
theorem dX8_finds_105 : decode cX8_finds 105 = .ok (.iload_n 1, 1) := by decide +kernel
theorem dX8_finds_106 : decode cX8_finds 106 = .ok (.if_icmp .eq 68, 3) := by decide +kernel
theorem dX8_finds_109 : decode cX8_finds 109 = .ok (.iload 5, 2) := by decide +kernel
theorem dX8_finds_111 : decode cX8_finds 111 = .ok (.i2l, 1) := by decide +kernel
theorem dX8_finds_112 : decode cX8_finds 112 = .ok (.lconst 0, 1) := by decide +kernel
theorem dX8_finds_113 : decode cX8_finds 113 = .ok (.aload_n 0, 1) := by decide +kernel
theorem dX8_finds_114 : decode cX8_finds 114 = .ok (.getfield 151, 3) := by decide +kernel
theorem dX8_finds_117 : decode cX8_finds 117 = .ok (.iconst 1, 1) := by decide +kernel
theorem dX8_finds_118 : decode cX8_finds 118 = .ok (.isub, 1) := by decide +kernel
theorem dX8_finds_119 : decode cX8_finds 119 = .ok (.i2l, 1) := by decide +kernel
theorem dX8_finds_120 : decode cX8_finds 120 = .ok (.invokestatic 98, 3) := by decide +kernel
theorem dX8_finds_123 : decode cX8_finds 123 = .ok (.ifCond .eq 45, 3) := by decide +kernel
theorem dX8_finds_126 : decode cX8_finds 126 = .ok (.aload_n 0, 1) := by decide +kernel
theorem dX8_finds_127 : decode cX8_finds 127 = .ok (.getfield 53, 3) := by decide +kernel
theorem dX8_finds_130 : decode cX8_finds 130 = .ok (.bipush 6, 2) := by decide +kernel
theorem dX8_finds_132 : decode cX8_finds 132 = .ok (.iload_n 1, 1) := by decide +kernel
theorem dX8_finds_133 : decode cX8_finds 133 = .ok (.imul, 1) := by decide +kernel
theorem dX8_finds_134 : decode cX8_finds 134 = .ok (.iload 4, 2) := by decide +kernel
theorem dX8_finds_136 : decode cX8_finds 136 = .ok (.iadd, 1) := by decide +kernel
theorem dX8_finds_137 : decode cX8_finds 137 = .ok (.dup2, 1) := by decide +kernel
theorem dX8_finds_138 : decode cX8_finds 138 = .ok (.iaload, 1) := by decide +kernel
theorem dX8_finds_139 : decode cX8_finds 139 = .ok (.iconst 1, 1) := by decide +kernel
theorem dX8_finds_140 : decode cX8_finds 140 = .ok (.iload 5, 2) := by decide +kernel
theorem dX8_finds_142 : decode cX8_finds 142 = .ok (.ishl, 1) := by decide +kernel
theorem dX8_finds_143 : decode cX8_finds 143 = .ok (.iconst (-1), 1) := by decide +kernel
theorem dX8_finds_144 : decode cX8_finds 144 = .ok (.ixor, 1) := by decide +kernel
theorem dX8_finds_145 : decode cX8_finds 145 = .ok (.iand, 1) := by decide +kernel
theorem dX8_finds_146 : decode cX8_finds 146 = .ok (.iastore, 1) := by decide +kernel
theorem dX8_finds_147 : decode cX8_finds 147 = .ok (.aload_n 0, 1) := by decide +kernel
theorem dX8_finds_148 : decode cX8_finds 148 = .ok (.getfield 53, 3) := by decide +kernel
theorem dX8_finds_151 : decode cX8_finds 151 = .ok (.bipush 6, 2) := by decide +kernel
theorem dX8_finds_153 : decode cX8_finds 153 = .ok (.iload 4, 2) := by decide +kernel
theorem dX8_finds_155 : decode cX8_finds 155 = .ok (.imul, 1) := by decide +kernel
theorem dX8_finds_156 : decode cX8_finds 156 = .ok (.iload_n 1, 1) := by decide +kernel
theorem dX8_finds_157 : decode cX8_finds 157 = .ok (.iadd, 1) := by decide +kernel
theorem dX8_finds_158 : decode cX8_finds 158 = .ok (.dup2, 1) := by decide +kernel
theorem dX8_finds_159 : decode cX8_finds 159 = .ok (.iaload, 1) := by decide +kernel
theorem dX8_finds_160 : decode cX8_finds 160 = .ok (.iconst 1, 1) := by decide +kernel
theorem dX8_finds_161 : decode cX8_finds 161 = .ok (.iload 5, 2) := by decide +kernel
theorem dX8_finds_163 : decode cX8_finds 163 = .ok (.ishl, 1) := by decide +kernel
theorem dX8_finds_164 : decode cX8_finds 164 = .ok (.iconst (-1), 1) := by decide +kernel
theorem dX8_finds_165 : decode cX8_finds 165 = .ok (.ixor, 1) := by decide +kernel
theorem dX8_finds_166 : decode cX8_finds 166 = .ok (.iand, 1) := by decide +kernel
theorem dX8_finds_167 : decode cX8_finds 167 = .ok (.iastore, 1) := by decide +kernel
theorem dX8_finds_168 : decode cX8_finds 168 = .ok (.iinc 5 1, 3) := by decide +kernel
theorem dX8_finds_171 : decode cX8_finds 171 = .ok (.goto (-76), 3) := by decide +kernel
theorem dX8_finds_174 : decode cX8_finds 174 = .ok (.iinc 4 1, 3) := by decide +kernel
theorem dX8_finds_177 : decode cX8_finds 177 = .ok (.goto (-96), 3) := by decide +kernel
theorem dX8_finds_180 : decode cX8_finds 180 = .ok (.return_, 1) := by decide +kernel
theorem dX8_know_0 : decode cX8_know 0 = .ok (.aload_n 0, 1) := by decide +kernel
theorem dX8_know_1 : decode cX8_know 1 = .ok (.getfield 157, 3) := by decide +kernel
theorem dX8_know_4 : decode cX8_know 4 = .ok (.ifCond .eq 4, 3) := by decide +kernel
theorem dX8_know_7 : decode cX8_know 7 = .ok (.return_, 1) := by decide +kernel
theorem dX8_know_8 : decode cX8_know 8 = .ok (.aload_n 0, 1) := by decide +kernel
theorem dX8_know_9 : decode cX8_know 9 = .ok (.iconst 1, 1) := by decide +kernel
theorem dX8_know_10 : decode cX8_know 10 = .ok (.putfield 157, 3) := by decide +kernel
theorem dX8_know_13 : decode cX8_know 13 = .ok (.aload_n 0, 1) := by decide +kernel
theorem dX8_know_14 : decode cX8_know 14 = .ok (.invokevirtual 263, 3) := by decide +kernel
theorem dX8_know_17 : decode cX8_know 17 = .ok (.aload_n 0, 1) := by decide +kernel
theorem dX8_know_18 : decode cX8_know 18 = .ok (.iconst 0, 1) := by decide +kernel
theorem dX8_know_19 : decode cX8_know 19 = .ok (.putfield 253, 3) := by decide +kernel
theorem dX8_know_22 : decode cX8_know 22 = .ok (.iconst 1, 1) := by decide +kernel
theorem dX8_know_23 : decode cX8_know 23 = .ok (.istore_n 1, 1) := by decide +kernel
theorem dX8_know_24 : decode cX8_know 24 = .ok (.iload_n 1, 1) := by decide +kernel
theorem dX8_know_25 : decode cX8_know 25 = .ok (.ifCond .eq 115, 3) := by decide +kernel
theorem dX8_know_28 : decode cX8_know 28 = .ok (.aload_n 0, 1) := by decide +kernel
theorem dX8_know_29 : decode cX8_know 29 = .ok (.getfield 19, 3) := by decide +kernel
theorem dX8_know_32 : decode cX8_know 32 = .ok (.bipush 99, 2) := by decide +kernel
theorem dX8_know_34 : decode cX8_know 34 = .ok (.iaload, 1) := by decide +kernel
theorem dX8_know_35 : decode cX8_know 35 = .ok (.iconst 1, 1) := by decide +kernel
theorem dX8_know_36 : decode cX8_know 36 = .ok (.isub, 1) := by decide +kernel
theorem dX8_know_37 : decode cX8_know 37 = .ok (.istore_n 2, 1) := by decide +kernel
theorem dX8_know_38 : decode cX8_know 38 = .ok (.bipush (-4), 2) := by decide +kernel
theorem dX8_know_40 : decode cX8_know 40 = .ok (.istore_n 3, 1) := by decide +kernel
theorem dX8_know_41 : decode cX8_know 41 = .ok (.bipush (-4), 2) := by decide +kernel
theorem dX8_know_43 : decode cX8_know 43 = .ok (.istore 4, 2) := by decide +kernel
theorem dX8_know_45 : decode cX8_know 45 = .ok (.iconst 0, 1) := by decide +kernel
theorem dX8_know_46 : decode cX8_know 46 = .ok (.istore 5, 2) := by decide +kernel
theorem dX8_know_48 : decode cX8_know 48 = .ok (.iload 5, 2) := by decide +kernel
theorem dX8_know_50 : decode cX8_know 50 = .ok (.aload_n 0, 1) := by decide +kernel
theorem dX8_know_51 : decode cX8_know 51 = .ok (.getfield 148, 3) := by decide +kernel
theorem dX8_know_54 : decode cX8_know 54 = .ok (.if_icmp .ge 60, 3) := by decide +kernel
theorem dX8_know_57 : decode cX8_know 57 = .ok (.iconst 0, 1) := by decide +kernel
theorem dX8_know_58 : decode cX8_know 58 = .ok (.istore 6, 2) := by decide +kernel
theorem dX8_know_60 : decode cX8_know 60 = .ok (.iload 6, 2) := by decide +kernel
theorem dX8_know_62 : decode cX8_know 62 = .ok (.aload_n 0, 1) := by decide +kernel
theorem dX8_know_63 : decode cX8_know 63 = .ok (.getfield 151, 3) := by decide +kernel
theorem dX8_know_66 : decode cX8_know 66 = .ok (.if_icmp .ge 42, 3) := by decide +kernel
theorem dX8_know_69 : decode cX8_know 69 = .ok (.aload_n 0, 1) := by decide +kernel
theorem dX8_know_70 : decode cX8_know 70 = .ok (.aload_n 0, 1) := by decide +kernel
theorem dX8_know_71 : decode cX8_know 71 = .ok (.getfield 53, 3) := by decide +kernel
theorem dX8_know_74 : decode cX8_know 74 = .ok (.iload 5, 2) := by decide +kernel
theorem dX8_know_76 : decode cX8_know 76 = .ok (.iload 6, 2) := by decide +kernel
theorem dX8_know_78 : decode cX8_know 78 = .ok (.invokevirtual 256, 3) := by decide +kernel
theorem dX8_know_81 : decode cX8_know 81 = .ok (.invokestatic 260, 3) := by decide +kernel
theorem dX8_know_84 : decode cX8_know 84 = .ok (.istore 7, 2) := by decide +kernel
theorem dX8_know_86 : decode cX8_know 86 = .ok (.iload 7, 2) := by decide +kernel
theorem dX8_know_88 : decode cX8_know 88 = .ok (.iload_n 2, 1) := by decide +kernel
theorem dX8_know_89 : decode cX8_know 89 = .ok (.if_icmp .le 13, 3) := by decide +kernel
theorem dX8_know_92 : decode cX8_know 92 = .ok (.iload 7, 2) := by decide +kernel
theorem dX8_know_94 : decode cX8_know 94 = .ok (.istore_n 2, 1) := by decide +kernel
theorem dX8_know_95 : decode cX8_know 95 = .ok (.iload 5, 2) := by decide +kernel
theorem dX8_know_97 : decode cX8_know 97 = .ok (.istore_n 3, 1) := by decide +kernel
theorem dX8_know_98 : decode cX8_know 98 = .ok (.iload 6, 2) := by decide +kernel
theorem dX8_know_100 : decode cX8_know 100 = .ok (.istore 4, 2) := by decide +kernel
theorem dX8_know_102 : decode cX8_know 102 = .ok (.iinc 6 1, 3) := by decide +kernel
theorem dX8_know_105 : decode cX8_know 105 = .ok (.goto (-45), 3) := by decide +kernel
theorem dX8_know_108 : decode cX8_know 108 = .ok (.iinc 5 1, 3) := by decide +kernel
theorem dX8_know_111 : decode cX8_know 111 = .ok (.goto (-63), 3) := by decide +kernel
theorem dX8_know_114 : decode cX8_know 114 = .ok (.iload_n 3, 1) := by decide +kernel
theorem dX8_know_115 : decode cX8_know 115 = .ok (.bipush (-4), 2) := by decide +kernel
theorem dX8_know_117 : decode cX8_know 117 = .ok (.if_icmp .eq 7, 3) := by decide +kernel
theorem dX8_know_120 : decode cX8_know 120 = .ok (.iconst 1, 1) := by decide +kernel
theorem dX8_know_121 : decode cX8_know 121 = .ok (.goto 4, 3) := by decide +kernel
theorem dX8_know_124 : decode cX8_know 124 = .ok (.iconst 0, 1) := by decide +kernel
theorem dX8_know_125 : decode cX8_know 125 = .ok (.istore_n 1, 1) := by decide +kernel
theorem dX8_know_126 : decode cX8_know 126 = .ok (.iload_n 1, 1) := by decide +kernel
theorem dX8_know_127 : decode cX8_know 127 = .ok (.ifCond .eq 10, 3) := by decide +kernel
theorem dX8_know_130 : decode cX8_know 130 = .ok (.aload_n 0, 1) := by decide +kernel
theorem dX8_know_131 : decode cX8_know 131 = .ok (.iload_n 3, 1) := by decide +kernel
theorem dX8_know_132 : decode cX8_know 132 = .ok (.iload 4, 2) := by decide +kernel
theorem dX8_know_134 : decode cX8_know 134 = .ok (.invokevirtual 266, 3) := by decide +kernel
theorem dX8_know_137 : decode cX8_know 137 = .ok (.goto (-113), 3) := by decide +kernel
theorem dX8_know_140 : decode cX8_know 140 = .ok (.return_, 1) := by decide +kernel
theorem dX8_votes_0 : decode cX8_votes 0 = .ok (.aload_n 0, 1) := by decide +kernel
theorem dX8_votes_1 : decode cX8_votes 1 = .ok (.iload_n 1, 1) := by decide +kernel
theorem dX8_votes_2 : decode cX8_votes 2 = .ok (.invokevirtual 161, 3) := by decide +kernel
theorem dX8_votes_5 : decode cX8_votes 5 = .ok (.ifCond .eq 11, 3) := by decide +kernel
theorem dX8_votes_8 : decode cX8_votes 8 = .ok (.aload_n 0, 1) := by decide +kernel
theorem dX8_votes_9 : decode cX8_votes 9 = .ok (.iload_n 2, 1) := by decide +kernel
theorem dX8_votes_10 : decode cX8_votes 10 = .ok (.invokevirtual 171, 3) := by decide +kernel
theorem dX8_votes_13 : decode cX8_votes 13 = .ok (.ifCond .ne 5, 3) := by decide +kernel
theorem dX8_votes_16 : decode cX8_votes 16 = .ok (.iconst (-1), 1) := by decide +kernel
theorem dX8_votes_17 : decode cX8_votes 17 = .ok (.ireturn, 1) := by decide +kernel
theorem dX8_votes_18 : decode cX8_votes 18 = .ok (.aload_n 0, 1) := by decide +kernel
theorem dX8_votes_19 : decode cX8_votes 19 = .ok (.invokevirtual 269, 3) := by decide +kernel
theorem dX8_votes_22 : decode cX8_votes 22 = .ok (.aload_n 0, 1) := by decide +kernel
theorem dX8_votes_23 : decode cX8_votes 23 = .ok (.aload_n 0, 1) := by decide +kernel
theorem dX8_votes_24 : decode cX8_votes 24 = .ok (.getfield 50, 3) := by decide +kernel
theorem dX8_votes_27 : decode cX8_votes 27 = .ok (.iload_n 1, 1) := by decide +kernel
theorem dX8_votes_28 : decode cX8_votes 28 = .ok (.iload_n 2, 1) := by decide +kernel
theorem dX8_votes_29 : decode cX8_votes 29 = .ok (.invokevirtual 256, 3) := by decide +kernel
theorem dX8_votes_32 : decode cX8_votes 32 = .ok (.invokestatic 260, 3) := by decide +kernel
theorem dX8_votes_35 : decode cX8_votes 35 = .ok (.ireturn, 1) := by decide +kernel
theorem dX8_nearestOf_0 : decode cX8_nearestOf 0 = .ok (.ldc2_w 192, 3) := by decide +kernel
theorem dX8_nearestOf_3 : decode cX8_nearestOf 3 = .ok (.lload_n 0, 1) := by decide +kernel
theorem dX8_nearestOf_4 : decode cX8_nearestOf 4 = .ok (.lmul, 1) := by decide +kernel
theorem dX8_nearestOf_5 : decode cX8_nearestOf 5 = .ok (.lload_n 2, 1) := by decide +kernel
theorem dX8_nearestOf_6 : decode cX8_nearestOf 6 = .ok (.ladd, 1) := by decide +kernel
theorem dX8_nearestOf_7 : decode cX8_nearestOf 7 = .ok (.lstore 4, 2) := by decide +kernel
theorem dX8_nearestOf_9 : decode cX8_nearestOf 9 = .ok (.ldc2_w 192, 3) := by decide +kernel
theorem dX8_nearestOf_12 : decode cX8_nearestOf 12 = .ok (.lload_n 2, 1) := by decide +kernel
theorem dX8_nearestOf_13 : decode cX8_nearestOf 13 = .ok (.lmul, 1) := by decide +kernel
theorem dX8_nearestOf_14 : decode cX8_nearestOf 14 = .ok (.lstore 6, 2) := by decide +kernel
theorem dX8_nearestOf_16 : decode cX8_nearestOf 16 = .ok (.lload 4, 2) := by decide +kernel
theorem dX8_nearestOf_18 : decode cX8_nearestOf 18 = .ok (.lload 6, 2) := by decide +kernel
theorem dX8_nearestOf_20 : decode cX8_nearestOf 20 = .ok (.ldiv, 1) := by decide +kernel
theorem dX8_nearestOf_21 : decode cX8_nearestOf 21 = .ok (.lstore 8, 2) := by decide +kernel
theorem dX8_nearestOf_23 : decode cX8_nearestOf 23 = .ok (.lload 8, 2) := by decide +kernel
theorem dX8_nearestOf_25 : decode cX8_nearestOf 25 = .ok (.lload 6, 2) := by decide +kernel
theorem dX8_nearestOf_27 : decode cX8_nearestOf 27 = .ok (.lmul, 1) := by decide +kernel
theorem dX8_nearestOf_28 : decode cX8_nearestOf 28 = .ok (.lload 4, 2) := by decide +kernel
theorem dX8_nearestOf_30 : decode cX8_nearestOf 30 = .ok (.lcmp, 1) := by decide +kernel
theorem dX8_nearestOf_31 : decode cX8_nearestOf 31 = .ok (.ifCond .le 10, 3) := by decide +kernel
theorem dX8_nearestOf_34 : decode cX8_nearestOf 34 = .ok (.lload 8, 2) := by decide +kernel
theorem dX8_nearestOf_36 : decode cX8_nearestOf 36 = .ok (.lconst 1, 1) := by decide +kernel
theorem dX8_nearestOf_37 : decode cX8_nearestOf 37 = .ok (.lsub, 1) := by decide +kernel
theorem dX8_nearestOf_38 : decode cX8_nearestOf 38 = .ok (.goto 5, 3) := by decide +kernel
theorem dX8_nearestOf_41 : decode cX8_nearestOf 41 = .ok (.lload 8, 2) := by decide +kernel
theorem dX8_nearestOf_43 : decode cX8_nearestOf 43 = .ok (.lreturn, 1) := by decide +kernel
theorem dX8_rises_0 : decode cX8_rises 0 = .ok (.aload_n 0, 1) := by decide +kernel
theorem dX8_rises_1 : decode cX8_rises 1 = .ok (.iload_n 1, 1) := by decide +kernel
theorem dX8_rises_2 : decode cX8_rises 2 = .ok (.iload_n 2, 1) := by decide +kernel
theorem dX8_rises_3 : decode cX8_rises 3 = .ok (.if_icmp .ge 7, 3) := by decide +kernel
theorem dX8_rises_6 : decode cX8_rises 6 = .ok (.iload_n 1, 1) := by decide +kernel
theorem dX8_rises_7 : decode cX8_rises 7 = .ok (.goto 4, 3) := by decide +kernel
theorem dX8_rises_10 : decode cX8_rises 10 = .ok (.iload_n 2, 1) := by decide +kernel
theorem dX8_rises_11 : decode cX8_rises 11 = .ok (.iload_n 1, 1) := by decide +kernel
theorem dX8_rises_12 : decode cX8_rises 12 = .ok (.iload_n 2, 1) := by decide +kernel
theorem dX8_rises_13 : decode cX8_rises 13 = .ok (.if_icmp .ge 7, 3) := by decide +kernel
theorem dX8_rises_16 : decode cX8_rises 16 = .ok (.iload_n 2, 1) := by decide +kernel
theorem dX8_rises_17 : decode cX8_rises 17 = .ok (.goto 4, 3) := by decide +kernel
theorem dX8_rises_20 : decode cX8_rises 20 = .ok (.iload_n 1, 1) := by decide +kernel
theorem dX8_rises_21 : decode cX8_rises 21 = .ok (.invokevirtual 245, 3) := by decide +kernel
theorem dX8_rises_24 : decode cX8_rises 24 = .ok (.lconst 0, 1) := by decide +kernel
theorem dX8_rises_25 : decode cX8_rises 25 = .ok (.lstore 4, 2) := by decide +kernel
theorem dX8_rises_27 : decode cX8_rises 27 = .ok (.iconst 0, 1) := by decide +kernel
theorem dX8_rises_28 : decode cX8_rises 28 = .ok (.istore 6, 2) := by decide +kernel
theorem dX8_rises_30 : decode cX8_rises 30 = .ok (.iload 6, 2) := by decide +kernel
theorem dX8_rises_32 : decode cX8_rises 32 = .ok (.aload_n 0, 1) := by decide +kernel
theorem dX8_rises_33 : decode cX8_rises 33 = .ok (.getfield 240, 3) := by decide +kernel
theorem dX8_rises_36 : decode cX8_rises 36 = .ok (.if_icmp .ge 121, 3) := by decide +kernel
theorem dX8_rises_39 : decode cX8_rises 39 = .ok (.iload 6, 2) := by decide +kernel
theorem dX8_rises_41 : decode cX8_rises 41 = .ok (.ifCond .ne 7, 3) := by decide +kernel
theorem dX8_rises_44 : decode cX8_rises 44 = .ok (.iconst 0, 1) := by decide +kernel
theorem dX8_rises_45 : decode cX8_rises 45 = .ok (.goto 12, 3) := by decide +kernel
theorem dX8_rises_48 : decode cX8_rises 48 = .ok (.aload_n 0, 1) := by decide +kernel
theorem dX8_rises_49 : decode cX8_rises 49 = .ok (.getfield 47, 3) := by decide +kernel
theorem dX8_rises_52 : decode cX8_rises 52 = .ok (.iload 6, 2) := by decide +kernel
theorem dX8_rises_54 : decode cX8_rises 54 = .ok (.iconst 1, 1) := by decide +kernel
theorem dX8_rises_55 : decode cX8_rises 55 = .ok (.isub, 1) := by decide +kernel
theorem dX8_rises_56 : decode cX8_rises 56 = .ok (.iaload, 1) := by decide +kernel
theorem dX8_rises_57 : decode cX8_rises 57 = .ok (.istore 7, 2) := by decide +kernel
theorem dX8_rises_59 : decode cX8_rises 59 = .ok (.aload_n 0, 1) := by decide +kernel
theorem dX8_rises_60 : decode cX8_rises 60 = .ok (.getfield 47, 3) := by decide +kernel
theorem dX8_rises_63 : decode cX8_rises 63 = .ok (.iload 6, 2) := by decide +kernel
theorem dX8_rises_65 : decode cX8_rises 65 = .ok (.iaload, 1) := by decide +kernel
theorem dX8_rises_66 : decode cX8_rises 66 = .ok (.istore 8, 2) := by decide +kernel
theorem dX8_rises_68 : decode cX8_rises 68 = .ok (.iload 6, 2) := by decide +kernel
theorem dX8_rises_70 : decode cX8_rises 70 = .ok (.iconst 1, 1) := by decide +kernel
theorem dX8_rises_71 : decode cX8_rises 71 = .ok (.iadd, 1) := by decide +kernel
theorem dX8_rises_72 : decode cX8_rises 72 = .ok (.aload_n 0, 1) := by decide +kernel
theorem dX8_rises_73 : decode cX8_rises 73 = .ok (.getfield 240, 3) := by decide +kernel
theorem dX8_rises_76 : decode cX8_rises 76 = .ok (.if_icmp .ge 15, 3) := by decide +kernel
theorem dX8_rises_79 : decode cX8_rises 79 = .ok (.aload_n 0, 1) := by decide +kernel
theorem dX8_rises_80 : decode cX8_rises 80 = .ok (.getfield 47, 3) := by decide +kernel
theorem dX8_rises_83 : decode cX8_rises 83 = .ok (.iload 6, 2) := by decide +kernel
theorem dX8_rises_85 : decode cX8_rises 85 = .ok (.iconst 1, 1) := by decide +kernel
theorem dX8_rises_86 : decode cX8_rises 86 = .ok (.iadd, 1) := by decide +kernel
theorem dX8_rises_87 : decode cX8_rises 87 = .ok (.iaload, 1) := by decide +kernel
theorem dX8_rises_88 : decode cX8_rises 88 = .ok (.goto 7, 3) := by decide +kernel
theorem dX8_rises_91 : decode cX8_rises 91 = .ok (.aload_n 0, 1) := by decide +kernel
theorem dX8_rises_92 : decode cX8_rises 92 = .ok (.getfield 216, 3) := by decide +kernel
theorem dX8_rises_95 : decode cX8_rises 95 = .ok (.istore 9, 2) := by decide +kernel
theorem dX8_rises_97 : decode cX8_rises 97 = .ok (.aload_n 0, 1) := by decide +kernel
theorem dX8_rises_98 : decode cX8_rises 98 = .ok (.getfield 41, 3) := by decide +kernel
theorem dX8_rises_101 : decode cX8_rises 101 = .ok (.iload 8, 2) := by decide +kernel
theorem dX8_rises_103 : decode cX8_rises 103 = .ok (.iaload, 1) := by decide +kernel
theorem dX8_rises_104 : decode cX8_rises 104 = .ok (.iload_n 3, 1) := by decide +kernel
theorem dX8_rises_105 : decode cX8_rises 105 = .ok (.if_icmp .ne 46, 3) := by decide +kernel
theorem dX8_rises_108 : decode cX8_rises 108 = .ok (.ldc 225, 2) := by decide +kernel
theorem dX8_rises_110 : decode cX8_rises 110 = .ok (.iload 9, 2) := by decide +kernel
theorem dX8_rises_112 : decode cX8_rises 112 = .ok (.iload 8, 2) := by decide +kernel
theorem dX8_rises_114 : decode cX8_rises 114 = .ok (.isub, 1) := by decide +kernel
theorem dX8_rises_115 : decode cX8_rises 115 = .ok (.idiv, 1) := by decide +kernel
theorem dX8_rises_116 : decode cX8_rises 116 = .ok (.i2l, 1) := by decide +kernel
theorem dX8_rises_117 : decode cX8_rises 117 = .ok (.aload_n 0, 1) := by decide +kernel
theorem dX8_rises_118 : decode cX8_rises 118 = .ok (.iload 8, 2) := by decide +kernel
theorem dX8_rises_120 : decode cX8_rises 120 = .ok (.iload 9, 2) := by decide +kernel
theorem dX8_rises_122 : decode cX8_rises 122 = .ok (.iconst 1, 1) := by decide +kernel
theorem dX8_rises_123 : decode cX8_rises 123 = .ok (.isub, 1) := by decide +kernel
theorem dX8_rises_124 : decode cX8_rises 124 = .ok (.invokevirtual 219, 3) := by decide +kernel
theorem dX8_rises_127 : decode cX8_rises 127 = .ok (.lmul, 1) := by decide +kernel
theorem dX8_rises_128 : decode cX8_rises 128 = .ok (.ldc 225, 2) := by decide +kernel
theorem dX8_rises_130 : decode cX8_rises 130 = .ok (.iload 8, 2) := by decide +kernel
theorem dX8_rises_132 : decode cX8_rises 132 = .ok (.iload 7, 2) := by decide +kernel
theorem dX8_rises_134 : decode cX8_rises 134 = .ok (.isub, 1) := by decide +kernel
theorem dX8_rises_135 : decode cX8_rises 135 = .ok (.idiv, 1) := by decide +kernel
theorem dX8_rises_136 : decode cX8_rises 136 = .ok (.i2l, 1) := by decide +kernel
theorem dX8_rises_137 : decode cX8_rises 137 = .ok (.aload_n 0, 1) := by decide +kernel
theorem dX8_rises_138 : decode cX8_rises 138 = .ok (.iload 7, 2) := by decide +kernel
theorem dX8_rises_140 : decode cX8_rises 140 = .ok (.iload 8, 2) := by decide +kernel
theorem dX8_rises_142 : decode cX8_rises 142 = .ok (.iconst 1, 1) := by decide +kernel
theorem dX8_rises_143 : decode cX8_rises 143 = .ok (.isub, 1) := by decide +kernel
theorem dX8_rises_144 : decode cX8_rises 144 = .ok (.invokevirtual 219, 3) := by decide +kernel
theorem dX8_rises_147 : decode cX8_rises 147 = .ok (.lmul, 1) := by decide +kernel
theorem dX8_rises_148 : decode cX8_rises 148 = .ok (.lsub, 1) := by decide +kernel
theorem dX8_rises_149 : decode cX8_rises 149 = .ok (.lstore 4, 2) := by decide +kernel
theorem dX8_rises_151 : decode cX8_rises 151 = .ok (.iinc 6 1, 3) := by decide +kernel
theorem dX8_rises_154 : decode cX8_rises 154 = .ok (.goto (-124), 3) := by decide +kernel
theorem dX8_rises_157 : decode cX8_rises 157 = .ok (.iload_n 1, 1) := by decide +kernel
theorem dX8_rises_158 : decode cX8_rises 158 = .ok (.iload_n 2, 1) := by decide +kernel
theorem dX8_rises_159 : decode cX8_rises 159 = .ok (.if_icmp .ge 8, 3) := by decide +kernel
theorem dX8_rises_162 : decode cX8_rises 162 = .ok (.lload 4, 2) := by decide +kernel
theorem dX8_rises_164 : decode cX8_rises 164 = .ok (.goto 6, 3) := by decide +kernel
theorem dX8_rises_167 : decode cX8_rises 167 = .ok (.lload 4, 2) := by decide +kernel
theorem dX8_rises_169 : decode cX8_rises 169 = .ok (.lneg, 1) := by decide +kernel
theorem dX8_rises_170 : decode cX8_rises 170 = .ok (.lreturn, 1) := by decide +kernel
theorem dX8_sizeOf_0 : decode cX8_sizeOf 0 = .ok (.lconst 0, 1) := by decide +kernel
theorem dX8_sizeOf_1 : decode cX8_sizeOf 1 = .ok (.lstore_n 2, 1) := by decide +kernel
theorem dX8_sizeOf_2 : decode cX8_sizeOf 2 = .ok (.iconst 0, 1) := by decide +kernel
theorem dX8_sizeOf_3 : decode cX8_sizeOf 3 = .ok (.istore 4, 2) := by decide +kernel
theorem dX8_sizeOf_5 : decode cX8_sizeOf 5 = .ok (.iload 4, 2) := by decide +kernel
theorem dX8_sizeOf_7 : decode cX8_sizeOf 7 = .ok (.aload_n 0, 1) := by decide +kernel
theorem dX8_sizeOf_8 : decode cX8_sizeOf 8 = .ok (.getfield 148, 3) := by decide +kernel
theorem dX8_sizeOf_11 : decode cX8_sizeOf 11 = .ok (.if_icmp .ge 48, 3) := by decide +kernel
theorem dX8_sizeOf_14 : decode cX8_sizeOf 14 = .ok (.lload_n 2, 1) := by decide +kernel
theorem dX8_sizeOf_15 : decode cX8_sizeOf 15 = .ok (.aload_n 0, 1) := by decide +kernel
theorem dX8_sizeOf_16 : decode cX8_sizeOf 16 = .ok (.getfield 65, 3) := by decide +kernel
theorem dX8_sizeOf_19 : decode cX8_sizeOf 19 = .ok (.iload_n 1, 1) := by decide +kernel
theorem dX8_sizeOf_20 : decode cX8_sizeOf 20 = .ok (.iaload, 1) := by decide +kernel
theorem dX8_sizeOf_21 : decode cX8_sizeOf 21 = .ok (.iload 4, 2) := by decide +kernel
theorem dX8_sizeOf_23 : decode cX8_sizeOf 23 = .ok (.invokestatic 250, 3) := by decide +kernel
theorem dX8_sizeOf_26 : decode cX8_sizeOf 26 = .ok (.ifCond .eq 24, 3) := by decide +kernel
theorem dX8_sizeOf_29 : decode cX8_sizeOf 29 = .ok (.aload_n 0, 1) := by decide +kernel
theorem dX8_sizeOf_30 : decode cX8_sizeOf 30 = .ok (.aload_n 0, 1) := by decide +kernel
theorem dX8_sizeOf_31 : decode cX8_sizeOf 31 = .ok (.getfield 56, 3) := by decide +kernel
theorem dX8_sizeOf_34 : decode cX8_sizeOf 34 = .ok (.iload_n 1, 1) := by decide +kernel
theorem dX8_sizeOf_35 : decode cX8_sizeOf 35 = .ok (.iaload, 1) := by decide +kernel
theorem dX8_sizeOf_36 : decode cX8_sizeOf 36 = .ok (.iload 4, 2) := by decide +kernel
theorem dX8_sizeOf_38 : decode cX8_sizeOf 38 = .ok (.aload_n 0, 1) := by decide +kernel
theorem dX8_sizeOf_39 : decode cX8_sizeOf 39 = .ok (.getfield 59, 3) := by decide +kernel
theorem dX8_sizeOf_42 : decode cX8_sizeOf 42 = .ok (.iload_n 1, 1) := by decide +kernel
theorem dX8_sizeOf_43 : decode cX8_sizeOf 43 = .ok (.iaload, 1) := by decide +kernel
theorem dX8_sizeOf_44 : decode cX8_sizeOf 44 = .ok (.invokevirtual 272, 3) := by decide +kernel
theorem dX8_sizeOf_47 : decode cX8_sizeOf 47 = .ok (.goto 4, 3) := by decide +kernel
theorem dX8_sizeOf_50 : decode cX8_sizeOf 50 = .ok (.lconst 0, 1) := by decide +kernel
theorem dX8_sizeOf_51 : decode cX8_sizeOf 51 = .ok (.ladd, 1) := by decide +kernel
theorem dX8_sizeOf_52 : decode cX8_sizeOf 52 = .ok (.lstore_n 2, 1) := by decide +kernel
theorem dX8_sizeOf_53 : decode cX8_sizeOf 53 = .ok (.iinc 4 1, 3) := by decide +kernel
theorem dX8_sizeOf_56 : decode cX8_sizeOf 56 = .ok (.goto (-51), 3) := by decide +kernel
theorem dX8_sizeOf_59 : decode cX8_sizeOf 59 = .ok (.lload_n 2, 1) := by decide +kernel
theorem dX8_sizeOf_60 : decode cX8_sizeOf 60 = .ok (.ldc2_w 223, 3) := by decide +kernel
theorem dX8_sizeOf_63 : decode cX8_sizeOf 63 = .ok (.aload_n 0, 1) := by decide +kernel
theorem dX8_sizeOf_64 : decode cX8_sizeOf 64 = .ok (.getfield 62, 3) := by decide +kernel
theorem dX8_sizeOf_67 : decode cX8_sizeOf 67 = .ok (.iload_n 1, 1) := by decide +kernel
theorem dX8_sizeOf_68 : decode cX8_sizeOf 68 = .ok (.iaload, 1) := by decide +kernel
theorem dX8_sizeOf_69 : decode cX8_sizeOf 69 = .ok (.i2l, 1) := by decide +kernel
theorem dX8_sizeOf_70 : decode cX8_sizeOf 70 = .ok (.lmul, 1) := by decide +kernel
theorem dX8_sizeOf_71 : decode cX8_sizeOf 71 = .ok (.invokestatic 276, 3) := by decide +kernel
theorem dX8_sizeOf_74 : decode cX8_sizeOf 74 = .ok (.l2i, 1) := by decide +kernel
theorem dX8_sizeOf_75 : decode cX8_sizeOf 75 = .ok (.ireturn, 1) := by decide +kernel
theorem dX8_culprit_0 : decode cX8_culprit 0 = .ok (.iload_n 1, 1) := by decide +kernel
theorem dX8_culprit_1 : decode cX8_culprit 1 = .ok (.iconst (-1), 1) := by decide +kernel
theorem dX8_culprit_2 : decode cX8_culprit 2 = .ok (.if_icmp .lt 15, 3) := by decide +kernel
theorem dX8_culprit_5 : decode cX8_culprit 5 = .ok (.iload_n 2, 1) := by decide +kernel
theorem dX8_culprit_6 : decode cX8_culprit 6 = .ok (.i2l, 1) := by decide +kernel
theorem dX8_culprit_7 : decode cX8_culprit 7 = .ok (.lconst 0, 1) := by decide +kernel
theorem dX8_culprit_8 : decode cX8_culprit 8 = .ok (.ldc2_w 280, 3) := by decide +kernel
theorem dX8_culprit_11 : decode cX8_culprit 11 = .ok (.invokestatic 98, 3) := by decide +kernel
theorem dX8_culprit_14 : decode cX8_culprit 14 = .ok (.ifCond .ne 5, 3) := by decide +kernel
theorem dX8_culprit_17 : decode cX8_culprit 17 = .ok (.iconst (-1), 1) := by decide +kernel
theorem dX8_culprit_18 : decode cX8_culprit 18 = .ok (.ireturn, 1) := by decide +kernel
theorem dX8_culprit_19 : decode cX8_culprit 19 = .ok (.aload_n 0, 1) := by decide +kernel
theorem dX8_culprit_20 : decode cX8_culprit 20 = .ok (.invokevirtual 269, 3) := by decide +kernel
theorem dX8_culprit_23 : decode cX8_culprit 23 = .ok (.iload_n 1, 1) := by decide +kernel
theorem dX8_culprit_24 : decode cX8_culprit 24 = .ok (.ifCond .lt 11, 3) := by decide +kernel
theorem dX8_culprit_27 : decode cX8_culprit 27 = .ok (.iload_n 1, 1) := by decide +kernel
theorem dX8_culprit_28 : decode cX8_culprit 28 = .ok (.aload_n 0, 1) := by decide +kernel
theorem dX8_culprit_29 : decode cX8_culprit 29 = .ok (.getfield 253, 3) := by decide +kernel
theorem dX8_culprit_32 : decode cX8_culprit 32 = .ok (.if_icmp .lt 17, 3) := by decide +kernel
theorem dX8_culprit_35 : decode cX8_culprit 35 = .ok (.iload_n 1, 1) := by decide +kernel
theorem dX8_culprit_36 : decode cX8_culprit 36 = .ok (.ifCond .ge 10, 3) := by decide +kernel
theorem dX8_culprit_39 : decode cX8_culprit 39 = .ok (.aload_n 0, 1) := by decide +kernel
theorem dX8_culprit_40 : decode cX8_culprit 40 = .ok (.getfield 253, 3) := by decide +kernel
theorem dX8_culprit_43 : decode cX8_culprit 43 = .ok (.goto 5, 3) := by decide +kernel
theorem dX8_culprit_46 : decode cX8_culprit 46 = .ok (.bipush (-4), 2) := by decide +kernel
theorem dX8_culprit_48 : decode cX8_culprit 48 = .ok (.ireturn, 1) := by decide +kernel
theorem dX8_culprit_49 : decode cX8_culprit 49 = .ok (.iload_n 2, 1) := by decide +kernel
theorem dX8_culprit_50 : decode cX8_culprit 50 = .ok (.ifCond .ne 12, 3) := by decide +kernel
theorem dX8_culprit_53 : decode cX8_culprit 53 = .ok (.aload_n 0, 1) := by decide +kernel
theorem dX8_culprit_54 : decode cX8_culprit 54 = .ok (.getfield 56, 3) := by decide +kernel
theorem dX8_culprit_57 : decode cX8_culprit 57 = .ok (.iload_n 1, 1) := by decide +kernel
theorem dX8_culprit_58 : decode cX8_culprit 58 = .ok (.iaload, 1) := by decide +kernel
theorem dX8_culprit_59 : decode cX8_culprit 59 = .ok (.goto 39, 3) := by decide +kernel
theorem dX8_culprit_62 : decode cX8_culprit 62 = .ok (.iload_n 2, 1) := by decide +kernel
theorem dX8_culprit_63 : decode cX8_culprit 63 = .ok (.iconst 1, 1) := by decide +kernel
theorem dX8_culprit_64 : decode cX8_culprit 64 = .ok (.if_icmp .ne 12, 3) := by decide +kernel
theorem dX8_culprit_67 : decode cX8_culprit 67 = .ok (.aload_n 0, 1) := by decide +kernel
theorem dX8_culprit_68 : decode cX8_culprit 68 = .ok (.getfield 59, 3) := by decide +kernel
theorem dX8_culprit_71 : decode cX8_culprit 71 = .ok (.iload_n 1, 1) := by decide +kernel
theorem dX8_culprit_72 : decode cX8_culprit 72 = .ok (.iaload, 1) := by decide +kernel
theorem dX8_culprit_73 : decode cX8_culprit 73 = .ok (.goto 25, 3) := by decide +kernel
theorem dX8_culprit_76 : decode cX8_culprit 76 = .ok (.iload_n 2, 1) := by decide +kernel
theorem dX8_culprit_77 : decode cX8_culprit 77 = .ok (.iconst 2, 1) := by decide +kernel
theorem dX8_culprit_78 : decode cX8_culprit 78 = .ok (.if_icmp .ne 12, 3) := by decide +kernel
theorem dX8_culprit_81 : decode cX8_culprit 81 = .ok (.aload_n 0, 1) := by decide +kernel
theorem dX8_culprit_82 : decode cX8_culprit 82 = .ok (.getfield 62, 3) := by decide +kernel
theorem dX8_culprit_85 : decode cX8_culprit 85 = .ok (.iload_n 1, 1) := by decide +kernel
theorem dX8_culprit_86 : decode cX8_culprit 86 = .ok (.iaload, 1) := by decide +kernel
theorem dX8_culprit_87 : decode cX8_culprit 87 = .ok (.goto 11, 3) := by decide +kernel
theorem dX8_culprit_90 : decode cX8_culprit 90 = .ok (.aload_n 0, 1) := by decide +kernel
theorem dX8_culprit_91 : decode cX8_culprit 91 = .ok (.iload_n 1, 1) := by decide +kernel
theorem dX8_culprit_92 : decode cX8_culprit 92 = .ok (.invokevirtual 282, 3) := by decide +kernel
theorem dX8_culprit_95 : decode cX8_culprit 95 = .ok (.ldc 167, 2) := by decide +kernel
theorem dX8_culprit_97 : decode cX8_culprit 97 = .ok (.iadd, 1) := by decide +kernel
theorem dX8_culprit_98 : decode cX8_culprit 98 = .ok (.ireturn, 1) := by decide +kernel
theorem dX8_mend_0 : decode cX8_mend 0 = .ok (.iload_n 1, 1) := by decide +kernel
theorem dX8_mend_1 : decode cX8_mend 1 = .ok (.ifCond .ge 5, 3) := by decide +kernel
theorem dX8_mend_4 : decode cX8_mend 4 = .ok (.iconst (-1), 1) := by decide +kernel
theorem dX8_mend_5 : decode cX8_mend 5 = .ok (.ireturn, 1) := by decide +kernel
theorem dX8_mend_6 : decode cX8_mend 6 = .ok (.aload_n 0, 1) := by decide +kernel
theorem dX8_mend_7 : decode cX8_mend 7 = .ok (.invokevirtual 269, 3) := by decide +kernel
theorem dX8_mend_10 : decode cX8_mend 10 = .ok (.iload_n 1, 1) := by decide +kernel
theorem dX8_mend_11 : decode cX8_mend 11 = .ok (.aload_n 0, 1) := by decide +kernel
theorem dX8_mend_12 : decode cX8_mend 12 = .ok (.getfield 253, 3) := by decide +kernel
theorem dX8_mend_15 : decode cX8_mend 15 = .ok (.if_icmp .lt 6, 3) := by decide +kernel
theorem dX8_mend_18 : decode cX8_mend 18 = .ok (.bipush (-4), 2) := by decide +kernel
theorem dX8_mend_20 : decode cX8_mend 20 = .ok (.ireturn, 1) := by decide +kernel
theorem dX8_mend_21 : decode cX8_mend 21 = .ok (.aload_n 0, 1) := by decide +kernel
theorem dX8_mend_22 : decode cX8_mend 22 = .ok (.getfield 19, 3) := by decide +kernel
theorem dX8_mend_25 : decode cX8_mend 25 = .ok (.bipush 101, 2) := by decide +kernel
theorem dX8_mend_27 : decode cX8_mend 27 = .ok (.iaload, 1) := by decide +kernel
theorem dX8_mend_28 : decode cX8_mend 28 = .ok (.bipush 10, 2) := by decide +kernel
theorem dX8_mend_30 : decode cX8_mend 30 = .ok (.if_icmp .ne 6, 3) := by decide +kernel
theorem dX8_mend_33 : decode cX8_mend 33 = .ok (.bipush (-3), 2) := by decide +kernel
theorem dX8_mend_35 : decode cX8_mend 35 = .ok (.ireturn, 1) := by decide +kernel
theorem dX8_mend_36 : decode cX8_mend 36 = .ok (.aload_n 0, 1) := by decide +kernel
theorem dX8_mend_37 : decode cX8_mend 37 = .ok (.getfield 56, 3) := by decide +kernel
theorem dX8_mend_40 : decode cX8_mend 40 = .ok (.iload_n 1, 1) := by decide +kernel
theorem dX8_mend_41 : decode cX8_mend 41 = .ok (.iaload, 1) := by decide +kernel
theorem dX8_mend_42 : decode cX8_mend 42 = .ok (.istore_n 2, 1) := by decide +kernel
theorem dX8_mend_43 : decode cX8_mend 43 = .ok (.aload_n 0, 1) := by decide +kernel
theorem dX8_mend_44 : decode cX8_mend 44 = .ok (.getfield 59, 3) := by decide +kernel
theorem dX8_mend_47 : decode cX8_mend 47 = .ok (.iload_n 1, 1) := by decide +kernel
theorem dX8_mend_48 : decode cX8_mend 48 = .ok (.iaload, 1) := by decide +kernel
theorem dX8_mend_49 : decode cX8_mend 49 = .ok (.istore_n 3, 1) := by decide +kernel
theorem dX8_mend_50 : decode cX8_mend 50 = .ok (.aload_n 0, 1) := by decide +kernel
theorem dX8_mend_51 : decode cX8_mend 51 = .ok (.iload_n 1, 1) := by decide +kernel
theorem dX8_mend_52 : decode cX8_mend 52 = .ok (.invokevirtual 282, 3) := by decide +kernel
theorem dX8_mend_55 : decode cX8_mend 55 = .ok (.istore 4, 2) := by decide +kernel
theorem dX8_mend_57 : decode cX8_mend 57 = .ok (.iload 4, 2) := by decide +kernel
theorem dX8_mend_59 : decode cX8_mend 59 = .ok (.ifCond .eq 7, 3) := by decide +kernel
theorem dX8_mend_62 : decode cX8_mend 62 = .ok (.iconst 1, 1) := by decide +kernel
theorem dX8_mend_63 : decode cX8_mend 63 = .ok (.goto 4, 3) := by decide +kernel
theorem dX8_mend_66 : decode cX8_mend 66 = .ok (.iconst 0, 1) := by decide +kernel
theorem dX8_mend_67 : decode cX8_mend 67 = .ok (.istore 5, 2) := by decide +kernel
theorem dX8_mend_69 : decode cX8_mend 69 = .ok (.iconst 0, 1) := by decide +kernel
theorem dX8_mend_70 : decode cX8_mend 70 = .ok (.istore 6, 2) := by decide +kernel
theorem dX8_mend_72 : decode cX8_mend 72 = .ok (.iload 6, 2) := by decide +kernel
theorem dX8_mend_74 : decode cX8_mend 74 = .ok (.iload_n 3, 1) := by decide +kernel
theorem dX8_mend_75 : decode cX8_mend 75 = .ok (.if_icmp .ge 54, 3) := by decide +kernel
theorem dX8_mend_78 : decode cX8_mend 78 = .ok (.iload 5, 2) := by decide +kernel
theorem dX8_mend_80 : decode cX8_mend 80 = .ok (.ifCond .eq 40, 3) := by decide +kernel
theorem dX8_mend_83 : decode cX8_mend 83 = .ok (.aload_n 0, 1) := by decide +kernel
theorem dX8_mend_84 : decode cX8_mend 84 = .ok (.iload_n 2, 1) := by decide +kernel
theorem dX8_mend_85 : decode cX8_mend 85 = .ok (.iload 6, 2) := by decide +kernel
theorem dX8_mend_87 : decode cX8_mend 87 = .ok (.invokevirtual 184, 3) := by decide +kernel
theorem dX8_mend_90 : decode cX8_mend 90 = .ok (.ifCond .eq 26, 3) := by decide +kernel
theorem dX8_mend_93 : decode cX8_mend 93 = .ok (.aload_n 0, 1) := by decide +kernel
theorem dX8_mend_94 : decode cX8_mend 94 = .ok (.iload_n 2, 1) := by decide +kernel
theorem dX8_mend_95 : decode cX8_mend 95 = .ok (.iload 6, 2) := by decide +kernel
theorem dX8_mend_97 : decode cX8_mend 97 = .ok (.invokevirtual 164, 3) := by decide +kernel
theorem dX8_mend_100 : decode cX8_mend 100 = .ok (.iload 4, 2) := by decide +kernel
theorem dX8_mend_102 : decode cX8_mend 102 = .ok (.iadd, 1) := by decide +kernel
theorem dX8_mend_103 : decode cX8_mend 103 = .ok (.i2l, 1) := by decide +kernel
theorem dX8_mend_104 : decode cX8_mend 104 = .ok (.ldc2_w 177, 3) := by decide +kernel
theorem dX8_mend_107 : decode cX8_mend 107 = .ok (.ldc2_w 179, 3) := by decide +kernel
theorem dX8_mend_110 : decode cX8_mend 110 = .ok (.invokestatic 98, 3) := by decide +kernel
theorem dX8_mend_113 : decode cX8_mend 113 = .ok (.ifCond .eq 7, 3) := by decide +kernel
theorem dX8_mend_116 : decode cX8_mend 116 = .ok (.iconst 1, 1) := by decide +kernel
theorem dX8_mend_117 : decode cX8_mend 117 = .ok (.goto 4, 3) := by decide +kernel
theorem dX8_mend_120 : decode cX8_mend 120 = .ok (.iconst 0, 1) := by decide +kernel
theorem dX8_mend_121 : decode cX8_mend 121 = .ok (.istore 5, 2) := by decide +kernel
theorem dX8_mend_123 : decode cX8_mend 123 = .ok (.iinc 6 1, 3) := by decide +kernel
theorem dX8_mend_126 : decode cX8_mend 126 = .ok (.goto (-54), 3) := by decide +kernel
theorem dX8_mend_129 : decode cX8_mend 129 = .ok (.iload 5, 2) := by decide +kernel
theorem dX8_mend_131 : decode cX8_mend 131 = .ok (.ifCond .ne 6, 3) := by decide +kernel
theorem dX8_mend_134 : decode cX8_mend 134 = .ok (.bipush (-2), 2) := by decide +kernel
theorem dX8_mend_136 : decode cX8_mend 136 = .ok (.ireturn, 1) := by decide +kernel
theorem dX8_mend_137 : decode cX8_mend 137 = .ok (.aload_n 0, 1) := by decide +kernel
theorem dX8_mend_138 : decode cX8_mend 138 = .ok (.invokevirtual 168, 3) := by decide +kernel
theorem dX8_mend_141 : decode cX8_mend 141 = .ok (.iconst 0, 1) := by decide +kernel
theorem dX8_mend_142 : decode cX8_mend 142 = .ok (.istore 6, 2) := by decide +kernel
theorem dX8_mend_144 : decode cX8_mend 144 = .ok (.iload 6, 2) := by decide +kernel
theorem dX8_mend_146 : decode cX8_mend 146 = .ok (.iload_n 3, 1) := by decide +kernel
theorem dX8_mend_147 : decode cX8_mend 147 = .ok (.if_icmp .ge 40, 3) := by decide +kernel
theorem dX8_mend_150 : decode cX8_mend 150 = .ok (.aload_n 0, 1) := by decide +kernel
theorem dX8_mend_151 : decode cX8_mend 151 = .ok (.getfield 19, 3) := by decide +kernel
theorem dX8_mend_154 : decode cX8_mend 154 = .ok (.bipush 16, 2) := by decide +kernel
theorem dX8_mend_156 : decode cX8_mend 156 = .ok (.iload_n 2, 1) := by decide +kernel
theorem dX8_mend_157 : decode cX8_mend 157 = .ok (.imul, 1) := by decide +kernel
theorem dX8_mend_158 : decode cX8_mend 158 = .ok (.iload 6, 2) := by decide +kernel
theorem dX8_mend_160 : decode cX8_mend 160 = .ok (.iadd, 1) := by decide +kernel
theorem dX8_mend_161 : decode cX8_mend 161 = .ok (.dup2, 1) := by decide +kernel
theorem dX8_mend_162 : decode cX8_mend 162 = .ok (.iaload, 1) := by decide +kernel
theorem dX8_mend_163 : decode cX8_mend 163 = .ok (.aload_n 0, 1) := by decide +kernel
theorem dX8_mend_164 : decode cX8_mend 164 = .ok (.iload_n 2, 1) := by decide +kernel
theorem dX8_mend_165 : decode cX8_mend 165 = .ok (.iload 6, 2) := by decide +kernel
theorem dX8_mend_167 : decode cX8_mend 167 = .ok (.invokevirtual 184, 3) := by decide +kernel
theorem dX8_mend_170 : decode cX8_mend 170 = .ok (.ifCond .eq 8, 3) := by decide +kernel
theorem dX8_mend_173 : decode cX8_mend 173 = .ok (.iload 4, 2) := by decide +kernel
theorem dX8_mend_175 : decode cX8_mend 175 = .ok (.goto 4, 3) := by decide +kernel
theorem dX8_mend_178 : decode cX8_mend 178 = .ok (.iconst 0, 1) := by decide +kernel
theorem dX8_mend_179 : decode cX8_mend 179 = .ok (.iadd, 1) := by decide +kernel
theorem dX8_mend_180 : decode cX8_mend 180 = .ok (.iastore, 1) := by decide +kernel
theorem dX8_mend_181 : decode cX8_mend 181 = .ok (.iinc 6 1, 3) := by decide +kernel
theorem dX8_mend_184 : decode cX8_mend 184 = .ok (.goto (-40), 3) := by decide +kernel
theorem dX8_mend_187 : decode cX8_mend 187 = .ok (.aload_n 0, 1) := by decide +kernel
theorem dX8_mend_188 : decode cX8_mend 188 = .ok (.getfield 34, 3) := by decide +kernel
theorem dX8_mend_191 : decode cX8_mend 191 = .ok (.iconst 3, 1) := by decide +kernel
theorem dX8_mend_192 : decode cX8_mend 192 = .ok (.aload_n 0, 1) := by decide +kernel
theorem dX8_mend_193 : decode cX8_mend 193 = .ok (.getfield 19, 3) := by decide +kernel
theorem dX8_mend_196 : decode cX8_mend 196 = .ok (.bipush 101, 2) := by decide +kernel
theorem dX8_mend_198 : decode cX8_mend 198 = .ok (.iaload, 1) := by decide +kernel
theorem dX8_mend_199 : decode cX8_mend 199 = .ok (.imul, 1) := by decide +kernel
theorem dX8_mend_200 : decode cX8_mend 200 = .ok (.iload_n 2, 1) := by decide +kernel
theorem dX8_mend_201 : decode cX8_mend 201 = .ok (.iastore, 1) := by decide +kernel
theorem dX8_mend_202 : decode cX8_mend 202 = .ok (.aload_n 0, 1) := by decide +kernel
theorem dX8_mend_203 : decode cX8_mend 203 = .ok (.getfield 34, 3) := by decide +kernel
theorem dX8_mend_206 : decode cX8_mend 206 = .ok (.iconst 3, 1) := by decide +kernel
theorem dX8_mend_207 : decode cX8_mend 207 = .ok (.aload_n 0, 1) := by decide +kernel
theorem dX8_mend_208 : decode cX8_mend 208 = .ok (.getfield 19, 3) := by decide +kernel
theorem dX8_mend_211 : decode cX8_mend 211 = .ok (.bipush 101, 2) := by decide +kernel
theorem dX8_mend_213 : decode cX8_mend 213 = .ok (.iaload, 1) := by decide +kernel
theorem dX8_mend_214 : decode cX8_mend 214 = .ok (.imul, 1) := by decide +kernel
theorem dX8_mend_215 : decode cX8_mend 215 = .ok (.iconst 1, 1) := by decide +kernel
theorem dX8_mend_216 : decode cX8_mend 216 = .ok (.iadd, 1) := by decide +kernel
theorem dX8_mend_217 : decode cX8_mend 217 = .ok (.iload_n 3, 1) := by decide +kernel
theorem dX8_mend_218 : decode cX8_mend 218 = .ok (.iastore, 1) := by decide +kernel
theorem dX8_mend_219 : decode cX8_mend 219 = .ok (.aload_n 0, 1) := by decide +kernel
theorem dX8_mend_220 : decode cX8_mend 220 = .ok (.getfield 34, 3) := by decide +kernel
theorem dX8_mend_223 : decode cX8_mend 223 = .ok (.iconst 3, 1) := by decide +kernel
theorem dX8_mend_224 : decode cX8_mend 224 = .ok (.aload_n 0, 1) := by decide +kernel
theorem dX8_mend_225 : decode cX8_mend 225 = .ok (.getfield 19, 3) := by decide +kernel
theorem dX8_mend_228 : decode cX8_mend 228 = .ok (.bipush 101, 2) := by decide +kernel
theorem dX8_mend_230 : decode cX8_mend 230 = .ok (.iaload, 1) := by decide +kernel
theorem dX8_mend_231 : decode cX8_mend 231 = .ok (.imul, 1) := by decide +kernel
theorem dX8_mend_232 : decode cX8_mend 232 = .ok (.iconst 2, 1) := by decide +kernel
theorem dX8_mend_233 : decode cX8_mend 233 = .ok (.iadd, 1) := by decide +kernel
theorem dX8_mend_234 : decode cX8_mend 234 = .ok (.iload 4, 2) := by decide +kernel
theorem dX8_mend_236 : decode cX8_mend 236 = .ok (.iastore, 1) := by decide +kernel
theorem dX8_mend_237 : decode cX8_mend 237 = .ok (.aload_n 0, 1) := by decide +kernel
theorem dX8_mend_238 : decode cX8_mend 238 = .ok (.getfield 19, 3) := by decide +kernel
theorem dX8_mend_241 : decode cX8_mend 241 = .ok (.bipush 101, 2) := by decide +kernel
theorem dX8_mend_243 : decode cX8_mend 243 = .ok (.dup2, 1) := by decide +kernel
theorem dX8_mend_244 : decode cX8_mend 244 = .ok (.iaload, 1) := by decide +kernel
theorem dX8_mend_245 : decode cX8_mend 245 = .ok (.iconst 1, 1) := by decide +kernel
theorem dX8_mend_246 : decode cX8_mend 246 = .ok (.iadd, 1) := by decide +kernel
theorem dX8_mend_247 : decode cX8_mend 247 = .ok (.iastore, 1) := by decide +kernel
theorem dX8_mend_248 : decode cX8_mend 248 = .ok (.aload_n 0, 1) := by decide +kernel
theorem dX8_mend_249 : decode cX8_mend 249 = .ok (.getfield 19, 3) := by decide +kernel
theorem dX8_mend_252 : decode cX8_mend 252 = .ok (.bipush 101, 2) := by decide +kernel
theorem dX8_mend_254 : decode cX8_mend 254 = .ok (.iaload, 1) := by decide +kernel
theorem dX8_mend_255 : decode cX8_mend 255 = .ok (.ireturn, 1) := by decide +kernel
theorem dX8_mends_0 : decode cX8_mends 0 = .ok (.iconst 0, 1) := by decide +kernel
theorem dX8_mends_1 : decode cX8_mends 1 = .ok (.istore_n 1, 1) := by decide +kernel
theorem dX8_mends_2 : decode cX8_mends 2 = .ok (.iload_n 1, 1) := by decide +kernel
theorem dX8_mends_3 : decode cX8_mends 3 = .ok (.bipush 12, 2) := by decide +kernel
theorem dX8_mends_5 : decode cX8_mends 5 = .ok (.if_icmp .ge 17, 3) := by decide +kernel
theorem dX8_mends_8 : decode cX8_mends 8 = .ok (.aload_n 0, 1) := by decide +kernel
theorem dX8_mends_9 : decode cX8_mends 9 = .ok (.iconst 0, 1) := by decide +kernel
theorem dX8_mends_10 : decode cX8_mends 10 = .ok (.invokevirtual 285, 3) := by decide +kernel
theorem dX8_mends_13 : decode cX8_mends 13 = .ok (.ifCond .le 9, 3) := by decide +kernel
theorem dX8_mends_16 : decode cX8_mends 16 = .ok (.iinc 1 1, 3) := by decide +kernel
theorem dX8_mends_19 : decode cX8_mends 19 = .ok (.goto (-17), 3) := by decide +kernel
theorem dX8_mends_22 : decode cX8_mends 22 = .ok (.iload_n 1, 1) := by decide +kernel
theorem dX8_mends_23 : decode cX8_mends 23 = .ok (.ireturn, 1) := by decide +kernel
theorem dX8_ledger_0 : decode cX8_ledger 0 = .ok (.iload_n 1, 1) := by decide +kernel
theorem dX8_ledger_1 : decode cX8_ledger 1 = .ok (.iconst (-1), 1) := by decide +kernel
theorem dX8_ledger_2 : decode cX8_ledger 2 = .ok (.if_icmp .lt 15, 3) := by decide +kernel
theorem dX8_ledger_5 : decode cX8_ledger 5 = .ok (.iload_n 2, 1) := by decide +kernel
theorem dX8_ledger_6 : decode cX8_ledger 6 = .ok (.i2l, 1) := by decide +kernel
theorem dX8_ledger_7 : decode cX8_ledger 7 = .ok (.lconst 0, 1) := by decide +kernel
theorem dX8_ledger_8 : decode cX8_ledger 8 = .ok (.ldc2_w 192, 3) := by decide +kernel
theorem dX8_ledger_11 : decode cX8_ledger 11 = .ok (.invokestatic 98, 3) := by decide +kernel
theorem dX8_ledger_14 : decode cX8_ledger 14 = .ok (.ifCond .ne 5, 3) := by decide +kernel
theorem dX8_ledger_17 : decode cX8_ledger 17 = .ok (.iconst (-1), 1) := by decide +kernel
theorem dX8_ledger_18 : decode cX8_ledger 18 = .ok (.ireturn, 1) := by decide +kernel
theorem dX8_ledger_19 : decode cX8_ledger 19 = .ok (.iload_n 1, 1) := by decide +kernel
theorem dX8_ledger_20 : decode cX8_ledger 20 = .ok (.ifCond .lt 14, 3) := by decide +kernel
theorem dX8_ledger_23 : decode cX8_ledger 23 = .ok (.iload_n 1, 1) := by decide +kernel
theorem dX8_ledger_24 : decode cX8_ledger 24 = .ok (.aload_n 0, 1) := by decide +kernel
theorem dX8_ledger_25 : decode cX8_ledger 25 = .ok (.getfield 19, 3) := by decide +kernel
theorem dX8_ledger_28 : decode cX8_ledger 28 = .ok (.bipush 101, 2) := by decide +kernel
theorem dX8_ledger_30 : decode cX8_ledger 30 = .ok (.iaload, 1) := by decide +kernel
theorem dX8_ledger_31 : decode cX8_ledger 31 = .ok (.if_icmp .lt 20, 3) := by decide +kernel
theorem dX8_ledger_34 : decode cX8_ledger 34 = .ok (.iload_n 1, 1) := by decide +kernel
theorem dX8_ledger_35 : decode cX8_ledger 35 = .ok (.ifCond .ge 13, 3) := by decide +kernel
theorem dX8_ledger_38 : decode cX8_ledger 38 = .ok (.aload_n 0, 1) := by decide +kernel
theorem dX8_ledger_39 : decode cX8_ledger 39 = .ok (.getfield 19, 3) := by decide +kernel
theorem dX8_ledger_42 : decode cX8_ledger 42 = .ok (.bipush 101, 2) := by decide +kernel
theorem dX8_ledger_44 : decode cX8_ledger 44 = .ok (.iaload, 1) := by decide +kernel
theorem dX8_ledger_45 : decode cX8_ledger 45 = .ok (.goto 5, 3) := by decide +kernel
theorem dX8_ledger_48 : decode cX8_ledger 48 = .ok (.bipush (-4), 2) := by decide +kernel
theorem dX8_ledger_50 : decode cX8_ledger 50 = .ok (.ireturn, 1) := by decide +kernel
theorem dX8_ledger_51 : decode cX8_ledger 51 = .ok (.aload_n 0, 1) := by decide +kernel
theorem dX8_ledger_52 : decode cX8_ledger 52 = .ok (.getfield 34, 3) := by decide +kernel
theorem dX8_ledger_55 : decode cX8_ledger 55 = .ok (.iconst 3, 1) := by decide +kernel
theorem dX8_ledger_56 : decode cX8_ledger 56 = .ok (.iload_n 1, 1) := by decide +kernel
theorem dX8_ledger_57 : decode cX8_ledger 57 = .ok (.imul, 1) := by decide +kernel
theorem dX8_ledger_58 : decode cX8_ledger 58 = .ok (.iload_n 2, 1) := by decide +kernel
theorem dX8_ledger_59 : decode cX8_ledger 59 = .ok (.iadd, 1) := by decide +kernel
theorem dX8_ledger_60 : decode cX8_ledger 60 = .ok (.iaload, 1) := by decide +kernel
theorem dX8_ledger_61 : decode cX8_ledger 61 = .ok (.iload_n 2, 1) := by decide +kernel
theorem dX8_ledger_62 : decode cX8_ledger 62 = .ok (.iconst 2, 1) := by decide +kernel
theorem dX8_ledger_63 : decode cX8_ledger 63 = .ok (.if_icmp .ne 8, 3) := by decide +kernel
theorem dX8_ledger_66 : decode cX8_ledger 66 = .ok (.ldc 167, 2) := by decide +kernel
theorem dX8_ledger_68 : decode cX8_ledger 68 = .ok (.goto 4, 3) := by decide +kernel
theorem dX8_ledger_71 : decode cX8_ledger 71 = .ok (.iconst 0, 1) := by decide +kernel
theorem dX8_ledger_72 : decode cX8_ledger 72 = .ok (.iadd, 1) := by decide +kernel
theorem dX8_ledger_73 : decode cX8_ledger 73 = .ok (.ireturn, 1) := by decide +kernel
theorem dX8_canMake_0 : decode cX8_canMake 0 = .ok (.lconst 0, 1) := by decide +kernel
theorem dX8_canMake_1 : decode cX8_canMake 1 = .ok (.lstore_n 3, 1) := by decide +kernel
theorem dX8_canMake_2 : decode cX8_canMake 2 = .ok (.iconst 0, 1) := by decide +kernel
theorem dX8_canMake_3 : decode cX8_canMake 3 = .ok (.istore 5, 2) := by decide +kernel
theorem dX8_canMake_5 : decode cX8_canMake 5 = .ok (.iconst 0, 1) := by decide +kernel
theorem dX8_canMake_6 : decode cX8_canMake 6 = .ok (.istore 6, 2) := by decide +kernel
theorem dX8_canMake_8 : decode cX8_canMake 8 = .ok (.iload 6, 2) := by decide +kernel
theorem dX8_canMake_10 : decode cX8_canMake 10 = .ok (.aload_n 0, 1) := by decide +kernel
theorem dX8_canMake_11 : decode cX8_canMake 11 = .ok (.getfield 148, 3) := by decide +kernel
theorem dX8_canMake_14 : decode cX8_canMake 14 = .ok (.if_icmp .ge 88, 3) := by decide +kernel
theorem dX8_canMake_17 : decode cX8_canMake 17 = .ok (.iload 6, 2) := by decide +kernel
theorem dX8_canMake_19 : decode cX8_canMake 19 = .ok (.iload_n 1, 1) := by decide +kernel
theorem dX8_canMake_20 : decode cX8_canMake 20 = .ok (.if_icmp .eq 76, 3) := by decide +kernel
theorem dX8_canMake_23 : decode cX8_canMake 23 = .ok (.aload_n 0, 1) := by decide +kernel
theorem dX8_canMake_24 : decode cX8_canMake 24 = .ok (.iload_n 1, 1) := by decide +kernel
theorem dX8_canMake_25 : decode cX8_canMake 25 = .ok (.iload 6, 2) := by decide +kernel
theorem dX8_canMake_27 : decode cX8_canMake 27 = .ok (.invokevirtual 213, 3) := by decide +kernel
theorem dX8_canMake_30 : decode cX8_canMake 30 = .ok (.ifCond .eq 66, 3) := by decide +kernel
theorem dX8_canMake_33 : decode cX8_canMake 33 = .ok (.aload_n 0, 1) := by decide +kernel
theorem dX8_canMake_34 : decode cX8_canMake 34 = .ok (.iload 6, 2) := by decide +kernel
theorem dX8_canMake_36 : decode cX8_canMake 36 = .ok (.iload_n 2, 1) := by decide +kernel
theorem dX8_canMake_37 : decode cX8_canMake 37 = .ok (.invokevirtual 184, 3) := by decide +kernel
theorem dX8_canMake_40 : decode cX8_canMake 40 = .ok (.ifCond .eq 56, 3) := by decide +kernel
theorem dX8_canMake_43 : decode cX8_canMake 43 = .ok (.aload_n 0, 1) := by decide +kernel
theorem dX8_canMake_44 : decode cX8_canMake 44 = .ok (.iload_n 1, 1) := by decide +kernel
theorem dX8_canMake_45 : decode cX8_canMake 45 = .ok (.iload 6, 2) := by decide +kernel
theorem dX8_canMake_47 : decode cX8_canMake 47 = .ok (.invokevirtual 226, 3) := by decide +kernel
theorem dX8_canMake_50 : decode cX8_canMake 50 = .ok (.aload_n 0, 1) := by decide +kernel
theorem dX8_canMake_51 : decode cX8_canMake 51 = .ok (.getfield 216, 3) := by decide +kernel
theorem dX8_canMake_54 : decode cX8_canMake 54 = .ok (.ifCond .le 42, 3) := by decide +kernel
theorem dX8_canMake_57 : decode cX8_canMake 57 = .ok (.lload_n 3, 1) := by decide +kernel
theorem dX8_canMake_58 : decode cX8_canMake 58 = .ok (.ldc2_w 223, 3) := by decide +kernel
theorem dX8_canMake_61 : decode cX8_canMake 61 = .ok (.aload_n 0, 1) := by decide +kernel
theorem dX8_canMake_62 : decode cX8_canMake 62 = .ok (.iload 6, 2) := by decide +kernel
theorem dX8_canMake_64 : decode cX8_canMake 64 = .ok (.iload_n 2, 1) := by decide +kernel
theorem dX8_canMake_65 : decode cX8_canMake 65 = .ok (.invokevirtual 164, 3) := by decide +kernel
theorem dX8_canMake_68 : decode cX8_canMake 68 = .ok (.i2l, 1) := by decide +kernel
theorem dX8_canMake_69 : decode cX8_canMake 69 = .ok (.lmul, 1) := by decide +kernel
theorem dX8_canMake_70 : decode cX8_canMake 70 = .ok (.ldc 225, 2) := by decide +kernel
theorem dX8_canMake_72 : decode cX8_canMake 72 = .ok (.aload_n 0, 1) := by decide +kernel
theorem dX8_canMake_73 : decode cX8_canMake 73 = .ok (.getfield 216, 3) := by decide +kernel
theorem dX8_canMake_76 : decode cX8_canMake 76 = .ok (.idiv, 1) := by decide +kernel
theorem dX8_canMake_77 : decode cX8_canMake 77 = .ok (.i2l, 1) := by decide +kernel
theorem dX8_canMake_78 : decode cX8_canMake 78 = .ok (.aload_n 0, 1) := by decide +kernel
theorem dX8_canMake_79 : decode cX8_canMake 79 = .ok (.iconst 0, 1) := by decide +kernel
theorem dX8_canMake_80 : decode cX8_canMake 80 = .ok (.aload_n 0, 1) := by decide +kernel
theorem dX8_canMake_81 : decode cX8_canMake 81 = .ok (.getfield 216, 3) := by decide +kernel
theorem dX8_canMake_84 : decode cX8_canMake 84 = .ok (.iconst 1, 1) := by decide +kernel
theorem dX8_canMake_85 : decode cX8_canMake 85 = .ok (.isub, 1) := by decide +kernel
theorem dX8_canMake_86 : decode cX8_canMake 86 = .ok (.invokevirtual 219, 3) := by decide +kernel
theorem dX8_canMake_89 : decode cX8_canMake 89 = .ok (.lmul, 1) := by decide +kernel
theorem dX8_canMake_90 : decode cX8_canMake 90 = .ok (.ladd, 1) := by decide +kernel
theorem dX8_canMake_91 : decode cX8_canMake 91 = .ok (.ladd, 1) := by decide +kernel
theorem dX8_canMake_92 : decode cX8_canMake 92 = .ok (.lstore_n 3, 1) := by decide +kernel
theorem dX8_canMake_93 : decode cX8_canMake 93 = .ok (.iinc 5 1, 3) := by decide +kernel
theorem dX8_canMake_96 : decode cX8_canMake 96 = .ok (.iinc 6 1, 3) := by decide +kernel
theorem dX8_canMake_99 : decode cX8_canMake 99 = .ok (.goto (-91), 3) := by decide +kernel
theorem dX8_canMake_102 : decode cX8_canMake 102 = .ok (.aload_n 0, 1) := by decide +kernel
theorem dX8_canMake_103 : decode cX8_canMake 103 = .ok (.iload 5, 2) := by decide +kernel
theorem dX8_canMake_105 : decode cX8_canMake 105 = .ok (.ifCond .ne 7, 3) := by decide +kernel
theorem dX8_canMake_108 : decode cX8_canMake 108 = .ok (.iconst 0, 1) := by decide +kernel
theorem dX8_canMake_109 : decode cX8_canMake 109 = .ok (.goto 15, 3) := by decide +kernel
theorem dX8_canMake_112 : decode cX8_canMake 112 = .ok (.lload_n 3, 1) := by decide +kernel
theorem dX8_canMake_113 : decode cX8_canMake 113 = .ok (.ldc2_w 223, 3) := by decide +kernel
theorem dX8_canMake_116 : decode cX8_canMake 116 = .ok (.iload 5, 2) := by decide +kernel
theorem dX8_canMake_118 : decode cX8_canMake 118 = .ok (.i2l, 1) := by decide +kernel
theorem dX8_canMake_119 : decode cX8_canMake 119 = .ok (.lmul, 1) := by decide +kernel
theorem dX8_canMake_120 : decode cX8_canMake 120 = .ok (.invokestatic 276, 3) := by decide +kernel
theorem dX8_canMake_123 : decode cX8_canMake 123 = .ok (.l2i, 1) := by decide +kernel
theorem dX8_canMake_124 : decode cX8_canMake 124 = .ok (.putfield 288, 3) := by decide +kernel
theorem dX8_canMake_127 : decode cX8_canMake 127 = .ok (.iload 5, 2) := by decide +kernel
theorem dX8_canMake_129 : decode cX8_canMake 129 = .ok (.ifCond .le 7, 3) := by decide +kernel
theorem dX8_canMake_132 : decode cX8_canMake 132 = .ok (.iconst 1, 1) := by decide +kernel
theorem dX8_canMake_133 : decode cX8_canMake 133 = .ok (.goto 4, 3) := by decide +kernel
theorem dX8_canMake_136 : decode cX8_canMake 136 = .ok (.iconst 0, 1) := by decide +kernel
theorem dX8_canMake_137 : decode cX8_canMake 137 = .ok (.ireturn, 1) := by decide +kernel
theorem dX8_made_0 : decode cX8_made 0 = .ok (.aload_n 0, 1) := by decide +kernel
theorem dX8_made_1 : decode cX8_made 1 = .ok (.iload_n 1, 1) := by decide +kernel
theorem dX8_made_2 : decode cX8_made 2 = .ok (.invokevirtual 161, 3) := by decide +kernel
theorem dX8_made_5 : decode cX8_made 5 = .ok (.ifCond .eq 11, 3) := by decide +kernel
theorem dX8_made_8 : decode cX8_made 8 = .ok (.aload_n 0, 1) := by decide +kernel
theorem dX8_made_9 : decode cX8_made 9 = .ok (.iload_n 2, 1) := by decide +kernel
theorem dX8_made_10 : decode cX8_made 10 = .ok (.invokevirtual 171, 3) := by decide +kernel
theorem dX8_made_13 : decode cX8_made 13 = .ok (.ifCond .ne 5, 3) := by decide +kernel
theorem dX8_made_16 : decode cX8_made 16 = .ok (.iconst (-1), 1) := by decide +kernel
theorem dX8_made_17 : decode cX8_made 17 = .ok (.ireturn, 1) := by decide +kernel
theorem dX8_made_18 : decode cX8_made 18 = .ok (.aload_n 0, 1) := by decide +kernel
theorem dX8_made_19 : decode cX8_made 19 = .ok (.iload_n 1, 1) := by decide +kernel
theorem dX8_made_20 : decode cX8_made 20 = .ok (.iload_n 2, 1) := by decide +kernel
theorem dX8_made_21 : decode cX8_made 21 = .ok (.invokevirtual 184, 3) := by decide +kernel
theorem dX8_made_24 : decode cX8_made 24 = .ok (.ifCond .eq 8, 3) := by decide +kernel
theorem dX8_made_27 : decode cX8_made 27 = .ok (.bipush (-2), 2) := by decide +kernel
theorem dX8_made_29 : decode cX8_made 29 = .ok (.goto 24, 3) := by decide +kernel
theorem dX8_made_32 : decode cX8_made 32 = .ok (.aload_n 0, 1) := by decide +kernel
theorem dX8_made_33 : decode cX8_made 33 = .ok (.iload_n 1, 1) := by decide +kernel
theorem dX8_made_34 : decode cX8_made 34 = .ok (.iload_n 2, 1) := by decide +kernel
theorem dX8_made_35 : decode cX8_made 35 = .ok (.invokevirtual 291, 3) := by decide +kernel
theorem dX8_made_38 : decode cX8_made 38 = .ok (.ifCond .eq 13, 3) := by decide +kernel
theorem dX8_made_41 : decode cX8_made 41 = .ok (.aload_n 0, 1) := by decide +kernel
theorem dX8_made_42 : decode cX8_made 42 = .ok (.getfield 288, 3) := by decide +kernel
theorem dX8_made_45 : decode cX8_made 45 = .ok (.ldc 167, 2) := by decide +kernel
theorem dX8_made_47 : decode cX8_made 47 = .ok (.iadd, 1) := by decide +kernel
theorem dX8_made_48 : decode cX8_made 48 = .ok (.goto 5, 3) := by decide +kernel
theorem dX8_made_51 : decode cX8_made 51 = .ok (.bipush (-4), 2) := by decide +kernel
theorem dX8_made_53 : decode cX8_made 53 = .ok (.ireturn, 1) := by decide +kernel
theorem dX8_make_0 : decode cX8_make 0 = .ok (.aload_n 0, 1) := by decide +kernel
theorem dX8_make_1 : decode cX8_make 1 = .ok (.iload_n 1, 1) := by decide +kernel
theorem dX8_make_2 : decode cX8_make 2 = .ok (.invokevirtual 161, 3) := by decide +kernel
theorem dX8_make_5 : decode cX8_make 5 = .ok (.ifCond .eq 11, 3) := by decide +kernel
theorem dX8_make_8 : decode cX8_make 8 = .ok (.aload_n 0, 1) := by decide +kernel
theorem dX8_make_9 : decode cX8_make 9 = .ok (.iload_n 2, 1) := by decide +kernel
theorem dX8_make_10 : decode cX8_make 10 = .ok (.invokevirtual 171, 3) := by decide +kernel
theorem dX8_make_13 : decode cX8_make 13 = .ok (.ifCond .ne 5, 3) := by decide +kernel
theorem dX8_make_16 : decode cX8_make 16 = .ok (.iconst (-1), 1) := by decide +kernel
theorem dX8_make_17 : decode cX8_make 17 = .ok (.ireturn, 1) := by decide +kernel
theorem dX8_make_18 : decode cX8_make 18 = .ok (.aload_n 0, 1) := by decide +kernel
theorem dX8_make_19 : decode cX8_make 19 = .ok (.iload_n 1, 1) := by decide +kernel
theorem dX8_make_20 : decode cX8_make 20 = .ok (.iload_n 2, 1) := by decide +kernel
theorem dX8_make_21 : decode cX8_make 21 = .ok (.invokevirtual 184, 3) := by decide +kernel
theorem dX8_make_24 : decode cX8_make 24 = .ok (.ifCond .eq 6, 3) := by decide +kernel
theorem dX8_make_27 : decode cX8_make 27 = .ok (.bipush (-2), 2) := by decide +kernel
theorem dX8_make_29 : decode cX8_make 29 = .ok (.ireturn, 1) := by decide +kernel
theorem dX8_make_30 : decode cX8_make 30 = .ok (.aload_n 0, 1) := by decide +kernel
theorem dX8_make_31 : decode cX8_make 31 = .ok (.iload_n 1, 1) := by decide +kernel
theorem dX8_make_32 : decode cX8_make 32 = .ok (.iload_n 2, 1) := by decide +kernel
theorem dX8_make_33 : decode cX8_make 33 = .ok (.invokevirtual 291, 3) := by decide +kernel
theorem dX8_make_36 : decode cX8_make 36 = .ok (.ifCond .ne 6, 3) := by decide +kernel
theorem dX8_make_39 : decode cX8_make 39 = .ok (.bipush (-4), 2) := by decide +kernel
theorem dX8_make_41 : decode cX8_make 41 = .ok (.ireturn, 1) := by decide +kernel
theorem dX8_make_42 : decode cX8_make 42 = .ok (.aload_n 0, 1) := by decide +kernel
theorem dX8_make_43 : decode cX8_make 43 = .ok (.getfield 288, 3) := by decide +kernel
theorem dX8_make_46 : decode cX8_make 46 = .ok (.i2l, 1) := by decide +kernel
theorem dX8_make_47 : decode cX8_make 47 = .ok (.ldc2_w 177, 3) := by decide +kernel
theorem dX8_make_50 : decode cX8_make 50 = .ok (.ldc2_w 179, 3) := by decide +kernel
theorem dX8_make_53 : decode cX8_make 53 = .ok (.invokestatic 98, 3) := by decide +kernel
theorem dX8_make_56 : decode cX8_make 56 = .ok (.ifCond .ne 6, 3) := by decide +kernel
theorem dX8_make_59 : decode cX8_make 59 = .ok (.bipush (-3), 2) := by decide +kernel
theorem dX8_make_61 : decode cX8_make 61 = .ok (.ireturn, 1) := by decide +kernel
theorem dX8_make_62 : decode cX8_make 62 = .ok (.aload_n 0, 1) := by decide +kernel
theorem dX8_make_63 : decode cX8_make 63 = .ok (.bipush 16, 2) := by decide +kernel
theorem dX8_make_65 : decode cX8_make 65 = .ok (.iload_n 1, 1) := by decide +kernel
theorem dX8_make_66 : decode cX8_make 66 = .ok (.imul, 1) := by decide +kernel
theorem dX8_make_67 : decode cX8_make 67 = .ok (.iload_n 2, 1) := by decide +kernel
theorem dX8_make_68 : decode cX8_make 68 = .ok (.iadd, 1) := by decide +kernel
theorem dX8_make_69 : decode cX8_make 69 = .ok (.aload_n 0, 1) := by decide +kernel
theorem dX8_make_70 : decode cX8_make 70 = .ok (.getfield 288, 3) := by decide +kernel
theorem dX8_make_73 : decode cX8_make 73 = .ok (.invokevirtual 181, 3) := by decide +kernel
theorem dX8_make_76 : decode cX8_make 76 = .ok (.pop, 1) := by decide +kernel
theorem dX8_make_77 : decode cX8_make 77 = .ok (.aload_n 0, 1) := by decide +kernel
theorem dX8_make_78 : decode cX8_make 78 = .ok (.getfield 288, 3) := by decide +kernel
theorem dX8_make_81 : decode cX8_make 81 = .ok (.ldc 167, 2) := by decide +kernel
theorem dX8_make_83 : decode cX8_make 83 = .ok (.iadd, 1) := by decide +kernel
theorem dX8_make_84 : decode cX8_make 84 = .ok (.ireturn, 1) := by decide +kernel
theorem dX8_rise_0 : decode cX8_rise 0 = .ok (.aload_n 0, 1) := by decide +kernel
theorem dX8_rise_1 : decode cX8_rise 1 = .ok (.iload_n 1, 1) := by decide +kernel
theorem dX8_rise_2 : decode cX8_rise 2 = .ok (.invokevirtual 161, 3) := by decide +kernel
theorem dX8_rise_5 : decode cX8_rise 5 = .ok (.ifCond .ne 5, 3) := by decide +kernel
theorem dX8_rise_8 : decode cX8_rise 8 = .ok (.iconst (-1), 1) := by decide +kernel
theorem dX8_rise_9 : decode cX8_rise 9 = .ok (.ireturn, 1) := by decide +kernel
theorem dX8_rise_10 : decode cX8_rise 10 = .ok (.ldc 167, 2) := by decide +kernel
theorem dX8_rise_12 : decode cX8_rise 12 = .ok (.istore_n 2, 1) := by decide +kernel
theorem dX8_rise_13 : decode cX8_rise 13 = .ok (.iconst 0, 1) := by decide +kernel
theorem dX8_rise_14 : decode cX8_rise 14 = .ok (.istore_n 3, 1) := by decide +kernel
theorem dX8_rise_15 : decode cX8_rise 15 = .ok (.iload_n 3, 1) := by decide +kernel
theorem dX8_rise_16 : decode cX8_rise 16 = .ok (.aload_n 0, 1) := by decide +kernel
theorem dX8_rise_17 : decode cX8_rise 17 = .ok (.getfield 151, 3) := by decide +kernel
theorem dX8_rise_20 : decode cX8_rise 20 = .ok (.if_icmp .ge 87, 3) := by decide +kernel
theorem dX8_rise_23 : decode cX8_rise 23 = .ok (.iconst 0, 1) := by decide +kernel
theorem dX8_rise_24 : decode cX8_rise 24 = .ok (.istore 4, 2) := by decide +kernel
theorem dX8_rise_26 : decode cX8_rise 26 = .ok (.iload 4, 2) := by decide +kernel
theorem dX8_rise_28 : decode cX8_rise 28 = .ok (.iload_n 3, 1) := by decide +kernel
theorem dX8_rise_29 : decode cX8_rise 29 = .ok (.if_icmp .ge 72, 3) := by decide +kernel
theorem dX8_rise_32 : decode cX8_rise 32 = .ok (.aload_n 0, 1) := by decide +kernel
theorem dX8_rise_33 : decode cX8_rise 33 = .ok (.iload_n 1, 1) := by decide +kernel
theorem dX8_rise_34 : decode cX8_rise 34 = .ok (.iload_n 3, 1) := by decide +kernel
theorem dX8_rise_35 : decode cX8_rise 35 = .ok (.invokevirtual 184, 3) := by decide +kernel
theorem dX8_rise_38 : decode cX8_rise 38 = .ok (.ifCond .eq 57, 3) := by decide +kernel
theorem dX8_rise_41 : decode cX8_rise 41 = .ok (.aload_n 0, 1) := by decide +kernel
theorem dX8_rise_42 : decode cX8_rise 42 = .ok (.iload_n 1, 1) := by decide +kernel
theorem dX8_rise_43 : decode cX8_rise 43 = .ok (.iload 4, 2) := by decide +kernel
theorem dX8_rise_45 : decode cX8_rise 45 = .ok (.invokevirtual 184, 3) := by decide +kernel
theorem dX8_rise_48 : decode cX8_rise 48 = .ok (.ifCond .eq 47, 3) := by decide +kernel
theorem dX8_rise_51 : decode cX8_rise 51 = .ok (.iload_n 2, 1) := by decide +kernel
theorem dX8_rise_52 : decode cX8_rise 52 = .ok (.aload_n 0, 1) := by decide +kernel
theorem dX8_rise_53 : decode cX8_rise 53 = .ok (.iload_n 1, 1) := by decide +kernel
theorem dX8_rise_54 : decode cX8_rise 54 = .ok (.iload_n 3, 1) := by decide +kernel
theorem dX8_rise_55 : decode cX8_rise 55 = .ok (.invokevirtual 164, 3) := by decide +kernel
theorem dX8_rise_58 : decode cX8_rise 58 = .ok (.aload_n 0, 1) := by decide +kernel
theorem dX8_rise_59 : decode cX8_rise 59 = .ok (.iload_n 1, 1) := by decide +kernel
theorem dX8_rise_60 : decode cX8_rise 60 = .ok (.iload 4, 2) := by decide +kernel
theorem dX8_rise_62 : decode cX8_rise 62 = .ok (.invokevirtual 164, 3) := by decide +kernel
theorem dX8_rise_65 : decode cX8_rise 65 = .ok (.if_icmp .le 7, 3) := by decide +kernel
theorem dX8_rise_68 : decode cX8_rise 68 = .ok (.iconst 1, 1) := by decide +kernel
theorem dX8_rise_69 : decode cX8_rise 69 = .ok (.goto 24, 3) := by decide +kernel
theorem dX8_rise_72 : decode cX8_rise 72 = .ok (.aload_n 0, 1) := by decide +kernel
theorem dX8_rise_73 : decode cX8_rise 73 = .ok (.iload_n 1, 1) := by decide +kernel
theorem dX8_rise_74 : decode cX8_rise 74 = .ok (.iload_n 3, 1) := by decide +kernel
theorem dX8_rise_75 : decode cX8_rise 75 = .ok (.invokevirtual 164, 3) := by decide +kernel
theorem dX8_rise_78 : decode cX8_rise 78 = .ok (.aload_n 0, 1) := by decide +kernel
theorem dX8_rise_79 : decode cX8_rise 79 = .ok (.iload_n 1, 1) := by decide +kernel
theorem dX8_rise_80 : decode cX8_rise 80 = .ok (.iload 4, 2) := by decide +kernel
theorem dX8_rise_82 : decode cX8_rise 82 = .ok (.invokevirtual 164, 3) := by decide +kernel
theorem dX8_rise_85 : decode cX8_rise 85 = .ok (.if_icmp .ge 7, 3) := by decide +kernel
theorem dX8_rise_88 : decode cX8_rise 88 = .ok (.iconst (-1), 1) := by decide +kernel
theorem dX8_rise_89 : decode cX8_rise 89 = .ok (.goto 4, 3) := by decide +kernel
theorem dX8_rise_92 : decode cX8_rise 92 = .ok (.iconst 0, 1) := by decide +kernel
theorem dX8_rise_93 : decode cX8_rise 93 = .ok (.iadd, 1) := by decide +kernel
theorem dX8_rise_94 : decode cX8_rise 94 = .ok (.istore_n 2, 1) := by decide +kernel
theorem dX8_rise_95 : decode cX8_rise 95 = .ok (.iinc 4 1, 3) := by decide +kernel
theorem dX8_rise_98 : decode cX8_rise 98 = .ok (.goto (-72), 3) := by decide +kernel
theorem dX8_rise_101 : decode cX8_rise 101 = .ok (.iinc 3 1, 3) := by decide +kernel
theorem dX8_rise_104 : decode cX8_rise 104 = .ok (.goto (-89), 3) := by decide +kernel
theorem dX8_rise_107 : decode cX8_rise 107 = .ok (.iload_n 2, 1) := by decide +kernel
theorem dX8_rise_108 : decode cX8_rise 108 = .ok (.ireturn, 1) := by decide +kernel
theorem dX8_pairs_0 : decode cX8_pairs 0 = .ok (.iconst 0, 1) := by decide +kernel
theorem dX8_pairs_1 : decode cX8_pairs 1 = .ok (.istore_n 1, 1) := by decide +kernel
theorem dX8_pairs_2 : decode cX8_pairs 2 = .ok (.iconst 0, 1) := by decide +kernel
theorem dX8_pairs_3 : decode cX8_pairs 3 = .ok (.istore_n 2, 1) := by decide +kernel
theorem dX8_pairs_4 : decode cX8_pairs 4 = .ok (.iload_n 2, 1) := by decide +kernel
theorem dX8_pairs_5 : decode cX8_pairs 5 = .ok (.aload_n 0, 1) := by decide +kernel
theorem dX8_pairs_6 : decode cX8_pairs 6 = .ok (.getfield 148, 3) := by decide +kernel
theorem dX8_pairs_9 : decode cX8_pairs 9 = .ok (.if_icmp .ge 39, 3) := by decide +kernel
theorem dX8_pairs_12 : decode cX8_pairs 12 = .ok (.iconst 0, 1) := by decide +kernel
theorem dX8_pairs_13 : decode cX8_pairs 13 = .ok (.istore_n 3, 1) := by decide +kernel
theorem dX8_pairs_14 : decode cX8_pairs 14 = .ok (.iload_n 3, 1) := by decide +kernel
theorem dX8_pairs_15 : decode cX8_pairs 15 = .ok (.iload_n 2, 1) := by decide +kernel
theorem dX8_pairs_16 : decode cX8_pairs 16 = .ok (.if_icmp .ge 26, 3) := by decide +kernel
theorem dX8_pairs_19 : decode cX8_pairs 19 = .ok (.iload_n 1, 1) := by decide +kernel
theorem dX8_pairs_20 : decode cX8_pairs 20 = .ok (.aload_n 0, 1) := by decide +kernel
theorem dX8_pairs_21 : decode cX8_pairs 21 = .ok (.iload_n 2, 1) := by decide +kernel
theorem dX8_pairs_22 : decode cX8_pairs 22 = .ok (.iload_n 3, 1) := by decide +kernel
theorem dX8_pairs_23 : decode cX8_pairs 23 = .ok (.invokevirtual 213, 3) := by decide +kernel
theorem dX8_pairs_26 : decode cX8_pairs 26 = .ok (.ifCond .eq 7, 3) := by decide +kernel
theorem dX8_pairs_29 : decode cX8_pairs 29 = .ok (.iconst 1, 1) := by decide +kernel
theorem dX8_pairs_30 : decode cX8_pairs 30 = .ok (.goto 4, 3) := by decide +kernel
theorem dX8_pairs_33 : decode cX8_pairs 33 = .ok (.iconst 0, 1) := by decide +kernel
theorem dX8_pairs_34 : decode cX8_pairs 34 = .ok (.iadd, 1) := by decide +kernel
theorem dX8_pairs_35 : decode cX8_pairs 35 = .ok (.istore_n 1, 1) := by decide +kernel
theorem dX8_pairs_36 : decode cX8_pairs 36 = .ok (.iinc 3 1, 3) := by decide +kernel
theorem dX8_pairs_39 : decode cX8_pairs 39 = .ok (.goto (-25), 3) := by decide +kernel
theorem dX8_pairs_42 : decode cX8_pairs 42 = .ok (.iinc 2 1, 3) := by decide +kernel
theorem dX8_pairs_45 : decode cX8_pairs 45 = .ok (.goto (-41), 3) := by decide +kernel
theorem dX8_pairs_48 : decode cX8_pairs 48 = .ok (.iload_n 1, 1) := by decide +kernel
theorem dX8_pairs_49 : decode cX8_pairs 49 = .ok (.ireturn, 1) := by decide +kernel
theorem dX8_missing_0 : decode cX8_missing 0 = .ok (.iconst 0, 1) := by decide +kernel
theorem dX8_missing_1 : decode cX8_missing 1 = .ok (.istore_n 1, 1) := by decide +kernel
theorem dX8_missing_2 : decode cX8_missing 2 = .ok (.iconst 0, 1) := by decide +kernel
theorem dX8_missing_3 : decode cX8_missing 3 = .ok (.istore_n 2, 1) := by decide +kernel
theorem dX8_missing_4 : decode cX8_missing 4 = .ok (.iload_n 2, 1) := by decide +kernel
theorem dX8_missing_5 : decode cX8_missing 5 = .ok (.aload_n 0, 1) := by decide +kernel
theorem dX8_missing_6 : decode cX8_missing 6 = .ok (.getfield 148, 3) := by decide +kernel
theorem dX8_missing_9 : decode cX8_missing 9 = .ok (.if_icmp .ge 42, 3) := by decide +kernel
theorem dX8_missing_12 : decode cX8_missing 12 = .ok (.iconst 0, 1) := by decide +kernel
theorem dX8_missing_13 : decode cX8_missing 13 = .ok (.istore_n 3, 1) := by decide +kernel
theorem dX8_missing_14 : decode cX8_missing 14 = .ok (.iload_n 3, 1) := by decide +kernel
theorem dX8_missing_15 : decode cX8_missing 15 = .ok (.aload_n 0, 1) := by decide +kernel
theorem dX8_missing_16 : decode cX8_missing 16 = .ok (.getfield 151, 3) := by decide +kernel
theorem dX8_missing_19 : decode cX8_missing 19 = .ok (.if_icmp .ge 26, 3) := by decide +kernel
theorem dX8_missing_22 : decode cX8_missing 22 = .ok (.iload_n 1, 1) := by decide +kernel
theorem dX8_missing_23 : decode cX8_missing 23 = .ok (.aload_n 0, 1) := by decide +kernel
theorem dX8_missing_24 : decode cX8_missing 24 = .ok (.iload_n 2, 1) := by decide +kernel
theorem dX8_missing_25 : decode cX8_missing 25 = .ok (.iload_n 3, 1) := by decide +kernel
theorem dX8_missing_26 : decode cX8_missing 26 = .ok (.invokevirtual 184, 3) := by decide +kernel
theorem dX8_missing_29 : decode cX8_missing 29 = .ok (.ifCond .eq 7, 3) := by decide +kernel
theorem dX8_missing_32 : decode cX8_missing 32 = .ok (.iconst 0, 1) := by decide +kernel
theorem dX8_missing_33 : decode cX8_missing 33 = .ok (.goto 4, 3) := by decide +kernel
theorem dX8_missing_36 : decode cX8_missing 36 = .ok (.iconst 1, 1) := by decide +kernel
theorem dX8_missing_37 : decode cX8_missing 37 = .ok (.iadd, 1) := by decide +kernel
theorem dX8_missing_38 : decode cX8_missing 38 = .ok (.istore_n 1, 1) := by decide +kernel
theorem dX8_missing_39 : decode cX8_missing 39 = .ok (.iinc 3 1, 3) := by decide +kernel
theorem dX8_missing_42 : decode cX8_missing 42 = .ok (.goto (-28), 3) := by decide +kernel
theorem dX8_missing_45 : decode cX8_missing 45 = .ok (.iinc 2 1, 3) := by decide +kernel
theorem dX8_missing_48 : decode cX8_missing 48 = .ok (.goto (-44), 3) := by decide +kernel
theorem dX8_missing_51 : decode cX8_missing 51 = .ok (.iload_n 1, 1) := by decide +kernel
theorem dX8_missing_52 : decode cX8_missing 52 = .ok (.ireturn, 1) := by decide +kernel
theorem dX8_count_0 : decode cX8_count 0 = .ok (.iload_n 1, 1) := by decide +kernel
theorem dX8_count_1 : decode cX8_count 1 = .ok (.tableswitch 101 0 10 #[59, 64, 69, 69, 69, 69, 69, 81, 86, 91, 96], 59) := by decide +kernel
theorem dX8_count_60 : decode cX8_count 60 = .ok (.aload_n 0, 1) := by decide +kernel
theorem dX8_count_61 : decode cX8_count 61 = .ok (.getfield 148, 3) := by decide +kernel
theorem dX8_count_64 : decode cX8_count 64 = .ok (.ireturn, 1) := by decide +kernel
theorem dX8_count_65 : decode cX8_count 65 = .ok (.aload_n 0, 1) := by decide +kernel
theorem dX8_count_66 : decode cX8_count 66 = .ok (.getfield 151, 3) := by decide +kernel
theorem dX8_count_69 : decode cX8_count 69 = .ok (.ireturn, 1) := by decide +kernel
theorem dX8_count_70 : decode cX8_count 70 = .ok (.aload_n 0, 1) := by decide +kernel
theorem dX8_count_71 : decode cX8_count 71 = .ok (.getfield 19, 3) := by decide +kernel
theorem dX8_count_74 : decode cX8_count 74 = .ok (.bipush 96, 2) := by decide +kernel
theorem dX8_count_76 : decode cX8_count 76 = .ok (.iload_n 1, 1) := by decide +kernel
theorem dX8_count_77 : decode cX8_count 77 = .ok (.iadd, 1) := by decide +kernel
theorem dX8_count_78 : decode cX8_count 78 = .ok (.iconst 2, 1) := by decide +kernel
theorem dX8_count_79 : decode cX8_count 79 = .ok (.isub, 1) := by decide +kernel
theorem dX8_count_80 : decode cX8_count 80 = .ok (.iaload, 1) := by decide +kernel
theorem dX8_count_81 : decode cX8_count 81 = .ok (.ireturn, 1) := by decide +kernel
theorem dX8_count_82 : decode cX8_count 82 = .ok (.aload_n 0, 1) := by decide +kernel
theorem dX8_count_83 : decode cX8_count 83 = .ok (.invokevirtual 294, 3) := by decide +kernel
theorem dX8_count_86 : decode cX8_count 86 = .ok (.ireturn, 1) := by decide +kernel
theorem dX8_count_87 : decode cX8_count 87 = .ok (.aload_n 0, 1) := by decide +kernel
theorem dX8_count_88 : decode cX8_count 88 = .ok (.invokevirtual 297, 3) := by decide +kernel
theorem dX8_count_91 : decode cX8_count 91 = .ok (.ireturn, 1) := by decide +kernel
theorem dX8_count_92 : decode cX8_count 92 = .ok (.aload_n 0, 1) := by decide +kernel
theorem dX8_count_93 : decode cX8_count 93 = .ok (.getfield 154, 3) := by decide +kernel
theorem dX8_count_96 : decode cX8_count 96 = .ok (.ireturn, 1) := by decide +kernel
theorem dX8_count_97 : decode cX8_count 97 = .ok (.aload_n 0, 1) := by decide +kernel
theorem dX8_count_98 : decode cX8_count 98 = .ok (.getfield 102, 3) := by decide +kernel
theorem dX8_count_101 : decode cX8_count 101 = .ok (.ireturn, 1) := by decide +kernel
theorem dX8_count_102 : decode cX8_count 102 = .ok (.iconst (-1), 1) := by decide +kernel
theorem dX8_count_103 : decode cX8_count 103 = .ok (.ireturn, 1) := by decide +kernel
end
section
theorem dL_law_0 : decode cL_law 0 = .ok (.new 7, 3) := by decide +kernel
theorem dL_law_3 : decode cL_law 3 = .ok (.dup, 1) := by decide +kernel
theorem dL_law_4 : decode cL_law 4 = .ok (.invokespecial 9, 3) := by decide +kernel
theorem dL_law_7 : decode cL_law 7 = .ok (.astore_n 1, 1) := by decide +kernel
theorem dL_law_8 : decode cL_law 8 = .ok (.new 10, 3) := by decide +kernel
theorem dL_law_11 : decode cL_law 11 = .ok (.dup, 1) := by decide +kernel
theorem dL_law_12 : decode cL_law 12 = .ok (.invokespecial 12, 3) := by decide +kernel
theorem dL_law_15 : decode cL_law 15 = .ok (.astore_n 2, 1) := by decide +kernel
theorem dL_law_16 : decode cL_law 16 = .ok (.iconst 0, 1) := by decide +kernel
theorem dL_law_17 : decode cL_law 17 = .ok (.istore_n 3, 1) := by decide +kernel
theorem dL_law_18 : decode cL_law 18 = .ok (.iload_n 3, 1) := by decide +kernel
theorem dL_law_19 : decode cL_law 19 = .ok (.aload_n 0, 1) := by decide +kernel
theorem dL_law_20 : decode cL_law 20 = .ok (.arraylength, 1) := by decide +kernel
theorem dL_law_21 : decode cL_law 21 = .ok (.iconst 5, 1) := by decide +kernel
theorem dL_law_22 : decode cL_law 22 = .ok (.isub, 1) := by decide +kernel
theorem dL_law_23 : decode cL_law 23 = .ok (.if_icmp .gt 1084, 3) := by decide +kernel
theorem dL_law_26 : decode cL_law 26 = .ok (.aload_n 0, 1) := by decide +kernel
theorem dL_law_27 : decode cL_law 27 = .ok (.iload_n 3, 1) := by decide +kernel
theorem dL_law_28 : decode cL_law 28 = .ok (.iaload, 1) := by decide +kernel
theorem dL_law_29 : decode cL_law 29 = .ok (.bipush 31, 2) := by decide +kernel
theorem dL_law_31 : decode cL_law 31 = .ok (.iand, 1) := by decide +kernel
theorem dL_law_32 : decode cL_law 32 = .ok (.tableswitch 1069 0 29 #[136, 159, 172, 185, 198, 231, 274, 307, 330, 363, 376, 409, 442, 475, 518, 561, 615, 658, 692, 736, 779, 822, 855, 888, 911, 924, 957, 990, 1023, 1046], 136) := by decide +kernel
theorem dL_law_168 : decode cL_law 168 = .ok (.aload_n 1, 1) := by decide +kernel
theorem dL_law_169 : decode cL_law 169 = .ok (.aload_n 0, 1) := by decide +kernel
theorem dL_law_170 : decode cL_law 170 = .ok (.iload_n 3, 1) := by decide +kernel
theorem dL_law_171 : decode cL_law 171 = .ok (.iconst 1, 1) := by decide +kernel
theorem dL_law_172 : decode cL_law 172 = .ok (.iadd, 1) := by decide +kernel
theorem dL_law_173 : decode cL_law 173 = .ok (.iaload, 1) := by decide +kernel
theorem dL_law_174 : decode cL_law 174 = .ok (.invokevirtual 13, 3) := by decide +kernel
theorem dL_law_177 : decode cL_law 177 = .ok (.aload_n 2, 1) := by decide +kernel
theorem dL_law_178 : decode cL_law 178 = .ok (.aload_n 0, 1) := by decide +kernel
theorem dL_law_179 : decode cL_law 179 = .ok (.iload_n 3, 1) := by decide +kernel
theorem dL_law_180 : decode cL_law 180 = .ok (.iconst 1, 1) := by decide +kernel
theorem dL_law_181 : decode cL_law 181 = .ok (.iadd, 1) := by decide +kernel
theorem dL_law_182 : decode cL_law 182 = .ok (.iaload, 1) := by decide +kernel
theorem dL_law_183 : decode cL_law 183 = .ok (.invokevirtual 17, 3) := by decide +kernel
theorem dL_law_186 : decode cL_law 186 = .ok (.if_icmp .eq 915, 3) := by decide +kernel
theorem dL_law_189 : decode cL_law 189 = .ok (.iconst 0, 1) := by decide +kernel
theorem dL_law_190 : decode cL_law 190 = .ok (.ireturn, 1) := by decide +kernel
theorem dL_law_191 : decode cL_law 191 = .ok (.aload_n 1, 1) := by decide +kernel
theorem dL_law_192 : decode cL_law 192 = .ok (.invokevirtual 18, 3) := by decide +kernel
theorem dL_law_195 : decode cL_law 195 = .ok (.aload_n 2, 1) := by decide +kernel
theorem dL_law_196 : decode cL_law 196 = .ok (.invokevirtual 22, 3) := by decide +kernel
theorem dL_law_199 : decode cL_law 199 = .ok (.if_icmp .eq 902, 3) := by decide +kernel
theorem dL_law_202 : decode cL_law 202 = .ok (.iconst 0, 1) := by decide +kernel
theorem dL_law_203 : decode cL_law 203 = .ok (.ireturn, 1) := by decide +kernel
theorem dL_law_204 : decode cL_law 204 = .ok (.aload_n 1, 1) := by decide +kernel
theorem dL_law_205 : decode cL_law 205 = .ok (.invokevirtual 23, 3) := by decide +kernel
theorem dL_law_208 : decode cL_law 208 = .ok (.aload_n 2, 1) := by decide +kernel
theorem dL_law_209 : decode cL_law 209 = .ok (.invokevirtual 26, 3) := by decide +kernel
theorem dL_law_212 : decode cL_law 212 = .ok (.if_icmp .eq 889, 3) := by decide +kernel
theorem dL_law_215 : decode cL_law 215 = .ok (.iconst 0, 1) := by decide +kernel
theorem dL_law_216 : decode cL_law 216 = .ok (.ireturn, 1) := by decide +kernel
theorem dL_law_217 : decode cL_law 217 = .ok (.aload_n 1, 1) := by decide +kernel
theorem dL_law_218 : decode cL_law 218 = .ok (.invokevirtual 27, 3) := by decide +kernel
theorem dL_law_221 : decode cL_law 221 = .ok (.aload_n 2, 1) := by decide +kernel
theorem dL_law_222 : decode cL_law 222 = .ok (.invokevirtual 30, 3) := by decide +kernel
theorem dL_law_225 : decode cL_law 225 = .ok (.if_icmp .eq 876, 3) := by decide +kernel
theorem dL_law_228 : decode cL_law 228 = .ok (.iconst 0, 1) := by decide +kernel
theorem dL_law_229 : decode cL_law 229 = .ok (.ireturn, 1) := by decide +kernel
theorem dL_law_230 : decode cL_law 230 = .ok (.aload_n 1, 1) := by decide +kernel
theorem dL_law_231 : decode cL_law 231 = .ok (.aload_n 0, 1) := by decide +kernel
theorem dL_law_232 : decode cL_law 232 = .ok (.iload_n 3, 1) := by decide +kernel
theorem dL_law_233 : decode cL_law 233 = .ok (.iconst 1, 1) := by decide +kernel
theorem dL_law_234 : decode cL_law 234 = .ok (.iadd, 1) := by decide +kernel
theorem dL_law_235 : decode cL_law 235 = .ok (.iaload, 1) := by decide +kernel
theorem dL_law_236 : decode cL_law 236 = .ok (.aload_n 0, 1) := by decide +kernel
theorem dL_law_237 : decode cL_law 237 = .ok (.iload_n 3, 1) := by decide +kernel
theorem dL_law_238 : decode cL_law 238 = .ok (.iconst 2, 1) := by decide +kernel
theorem dL_law_239 : decode cL_law 239 = .ok (.iadd, 1) := by decide +kernel
theorem dL_law_240 : decode cL_law 240 = .ok (.iaload, 1) := by decide +kernel
theorem dL_law_241 : decode cL_law 241 = .ok (.invokevirtual 31, 3) := by decide +kernel
theorem dL_law_244 : decode cL_law 244 = .ok (.aload_n 2, 1) := by decide +kernel
theorem dL_law_245 : decode cL_law 245 = .ok (.aload_n 0, 1) := by decide +kernel
theorem dL_law_246 : decode cL_law 246 = .ok (.iload_n 3, 1) := by decide +kernel
theorem dL_law_247 : decode cL_law 247 = .ok (.iconst 1, 1) := by decide +kernel
theorem dL_law_248 : decode cL_law 248 = .ok (.iadd, 1) := by decide +kernel
theorem dL_law_249 : decode cL_law 249 = .ok (.iaload, 1) := by decide +kernel
theorem dL_law_250 : decode cL_law 250 = .ok (.aload_n 0, 1) := by decide +kernel
theorem dL_law_251 : decode cL_law 251 = .ok (.iload_n 3, 1) := by decide +kernel
theorem dL_law_252 : decode cL_law 252 = .ok (.iconst 2, 1) := by decide +kernel
theorem dL_law_253 : decode cL_law 253 = .ok (.iadd, 1) := by decide +kernel
theorem dL_law_254 : decode cL_law 254 = .ok (.iaload, 1) := by decide +kernel
theorem dL_law_255 : decode cL_law 255 = .ok (.invokevirtual 35, 3) := by decide +kernel
theorem dL_law_258 : decode cL_law 258 = .ok (.if_icmp .eq 843, 3) := by decide +kernel
theorem dL_law_261 : decode cL_law 261 = .ok (.iconst 0, 1) := by decide +kernel
theorem dL_law_262 : decode cL_law 262 = .ok (.ireturn, 1) := by decide +kernel
theorem dL_law_263 : decode cL_law 263 = .ok (.aload_n 1, 1) := by decide +kernel
theorem dL_law_264 : decode cL_law 264 = .ok (.aload_n 0, 1) := by decide +kernel
theorem dL_law_265 : decode cL_law 265 = .ok (.iload_n 3, 1) := by decide +kernel
theorem dL_law_266 : decode cL_law 266 = .ok (.iconst 1, 1) := by decide +kernel
theorem dL_law_267 : decode cL_law 267 = .ok (.iadd, 1) := by decide +kernel
theorem dL_law_268 : decode cL_law 268 = .ok (.iaload, 1) := by decide +kernel
theorem dL_law_269 : decode cL_law 269 = .ok (.aload_n 0, 1) := by decide +kernel
theorem dL_law_270 : decode cL_law 270 = .ok (.iload_n 3, 1) := by decide +kernel
theorem dL_law_271 : decode cL_law 271 = .ok (.iconst 2, 1) := by decide +kernel
theorem dL_law_272 : decode cL_law 272 = .ok (.iadd, 1) := by decide +kernel
theorem dL_law_273 : decode cL_law 273 = .ok (.iaload, 1) := by decide +kernel
theorem dL_law_274 : decode cL_law 274 = .ok (.aload_n 0, 1) := by decide +kernel
theorem dL_law_275 : decode cL_law 275 = .ok (.iload_n 3, 1) := by decide +kernel
theorem dL_law_276 : decode cL_law 276 = .ok (.iconst 3, 1) := by decide +kernel
theorem dL_law_277 : decode cL_law 277 = .ok (.iadd, 1) := by decide +kernel
theorem dL_law_278 : decode cL_law 278 = .ok (.iaload, 1) := by decide +kernel
theorem dL_law_279 : decode cL_law 279 = .ok (.invokevirtual 36, 3) := by decide +kernel
theorem dL_law_282 : decode cL_law 282 = .ok (.aload_n 2, 1) := by decide +kernel
theorem dL_law_283 : decode cL_law 283 = .ok (.aload_n 0, 1) := by decide +kernel
theorem dL_law_284 : decode cL_law 284 = .ok (.iload_n 3, 1) := by decide +kernel
theorem dL_law_285 : decode cL_law 285 = .ok (.iconst 1, 1) := by decide +kernel
theorem dL_law_286 : decode cL_law 286 = .ok (.iadd, 1) := by decide +kernel
theorem dL_law_287 : decode cL_law 287 = .ok (.iaload, 1) := by decide +kernel
theorem dL_law_288 : decode cL_law 288 = .ok (.aload_n 0, 1) := by decide +kernel
theorem dL_law_289 : decode cL_law 289 = .ok (.iload_n 3, 1) := by decide +kernel
theorem dL_law_290 : decode cL_law 290 = .ok (.iconst 2, 1) := by decide +kernel
theorem dL_law_291 : decode cL_law 291 = .ok (.iadd, 1) := by decide +kernel
theorem dL_law_292 : decode cL_law 292 = .ok (.iaload, 1) := by decide +kernel
theorem dL_law_293 : decode cL_law 293 = .ok (.aload_n 0, 1) := by decide +kernel
theorem dL_law_294 : decode cL_law 294 = .ok (.iload_n 3, 1) := by decide +kernel
theorem dL_law_295 : decode cL_law 295 = .ok (.iconst 3, 1) := by decide +kernel
theorem dL_law_296 : decode cL_law 296 = .ok (.iadd, 1) := by decide +kernel
theorem dL_law_297 : decode cL_law 297 = .ok (.iaload, 1) := by decide +kernel
theorem dL_law_298 : decode cL_law 298 = .ok (.invokevirtual 40, 3) := by decide +kernel
theorem dL_law_301 : decode cL_law 301 = .ok (.if_icmp .eq 800, 3) := by decide +kernel
theorem dL_law_304 : decode cL_law 304 = .ok (.iconst 0, 1) := by decide +kernel
theorem dL_law_305 : decode cL_law 305 = .ok (.ireturn, 1) := by decide +kernel
theorem dL_law_306 : decode cL_law 306 = .ok (.aload_n 1, 1) := by decide +kernel
theorem dL_law_307 : decode cL_law 307 = .ok (.aload_n 0, 1) := by decide +kernel
theorem dL_law_308 : decode cL_law 308 = .ok (.iload_n 3, 1) := by decide +kernel
theorem dL_law_309 : decode cL_law 309 = .ok (.iconst 1, 1) := by decide +kernel
theorem dL_law_310 : decode cL_law 310 = .ok (.iadd, 1) := by decide +kernel
theorem dL_law_311 : decode cL_law 311 = .ok (.iaload, 1) := by decide +kernel
theorem dL_law_312 : decode cL_law 312 = .ok (.aload_n 0, 1) := by decide +kernel
theorem dL_law_313 : decode cL_law 313 = .ok (.iload_n 3, 1) := by decide +kernel
theorem dL_law_314 : decode cL_law 314 = .ok (.iconst 2, 1) := by decide +kernel
theorem dL_law_315 : decode cL_law 315 = .ok (.iadd, 1) := by decide +kernel
theorem dL_law_316 : decode cL_law 316 = .ok (.iaload, 1) := by decide +kernel
theorem dL_law_317 : decode cL_law 317 = .ok (.invokevirtual 41, 3) := by decide +kernel
theorem dL_law_320 : decode cL_law 320 = .ok (.aload_n 2, 1) := by decide +kernel
theorem dL_law_321 : decode cL_law 321 = .ok (.aload_n 0, 1) := by decide +kernel
theorem dL_law_322 : decode cL_law 322 = .ok (.iload_n 3, 1) := by decide +kernel
theorem dL_law_323 : decode cL_law 323 = .ok (.iconst 1, 1) := by decide +kernel
theorem dL_law_324 : decode cL_law 324 = .ok (.iadd, 1) := by decide +kernel
theorem dL_law_325 : decode cL_law 325 = .ok (.iaload, 1) := by decide +kernel
theorem dL_law_326 : decode cL_law 326 = .ok (.aload_n 0, 1) := by decide +kernel
theorem dL_law_327 : decode cL_law 327 = .ok (.iload_n 3, 1) := by decide +kernel
theorem dL_law_328 : decode cL_law 328 = .ok (.iconst 2, 1) := by decide +kernel
theorem dL_law_329 : decode cL_law 329 = .ok (.iadd, 1) := by decide +kernel
theorem dL_law_330 : decode cL_law 330 = .ok (.iaload, 1) := by decide +kernel
theorem dL_law_331 : decode cL_law 331 = .ok (.invokevirtual 44, 3) := by decide +kernel
theorem dL_law_334 : decode cL_law 334 = .ok (.if_icmp .eq 767, 3) := by decide +kernel
theorem dL_law_337 : decode cL_law 337 = .ok (.iconst 0, 1) := by decide +kernel
theorem dL_law_338 : decode cL_law 338 = .ok (.ireturn, 1) := by decide +kernel
theorem dL_law_339 : decode cL_law 339 = .ok (.aload_n 1, 1) := by decide +kernel
theorem dL_law_340 : decode cL_law 340 = .ok (.aload_n 0, 1) := by decide +kernel
theorem dL_law_341 : decode cL_law 341 = .ok (.iload_n 3, 1) := by decide +kernel
theorem dL_law_342 : decode cL_law 342 = .ok (.iconst 1, 1) := by decide +kernel
theorem dL_law_343 : decode cL_law 343 = .ok (.iadd, 1) := by decide +kernel
theorem dL_law_344 : decode cL_law 344 = .ok (.iaload, 1) := by decide +kernel
theorem dL_law_345 : decode cL_law 345 = .ok (.invokevirtual 45, 3) := by decide +kernel
theorem dL_law_348 : decode cL_law 348 = .ok (.aload_n 2, 1) := by decide +kernel
theorem dL_law_349 : decode cL_law 349 = .ok (.aload_n 0, 1) := by decide +kernel
theorem dL_law_350 : decode cL_law 350 = .ok (.iload_n 3, 1) := by decide +kernel
theorem dL_law_351 : decode cL_law 351 = .ok (.iconst 1, 1) := by decide +kernel
theorem dL_law_352 : decode cL_law 352 = .ok (.iadd, 1) := by decide +kernel
theorem dL_law_353 : decode cL_law 353 = .ok (.iaload, 1) := by decide +kernel
theorem dL_law_354 : decode cL_law 354 = .ok (.invokevirtual 48, 3) := by decide +kernel
theorem dL_law_357 : decode cL_law 357 = .ok (.if_icmp .eq 744, 3) := by decide +kernel
theorem dL_law_360 : decode cL_law 360 = .ok (.iconst 0, 1) := by decide +kernel
theorem dL_law_361 : decode cL_law 361 = .ok (.ireturn, 1) := by decide +kernel
theorem dL_law_362 : decode cL_law 362 = .ok (.aload_n 1, 1) := by decide +kernel
theorem dL_law_363 : decode cL_law 363 = .ok (.aload_n 0, 1) := by decide +kernel
theorem dL_law_364 : decode cL_law 364 = .ok (.iload_n 3, 1) := by decide +kernel
theorem dL_law_365 : decode cL_law 365 = .ok (.iconst 1, 1) := by decide +kernel
theorem dL_law_366 : decode cL_law 366 = .ok (.iadd, 1) := by decide +kernel
theorem dL_law_367 : decode cL_law 367 = .ok (.iaload, 1) := by decide +kernel
theorem dL_law_368 : decode cL_law 368 = .ok (.aload_n 0, 1) := by decide +kernel
theorem dL_law_369 : decode cL_law 369 = .ok (.iload_n 3, 1) := by decide +kernel
theorem dL_law_370 : decode cL_law 370 = .ok (.iconst 2, 1) := by decide +kernel
theorem dL_law_371 : decode cL_law 371 = .ok (.iadd, 1) := by decide +kernel
theorem dL_law_372 : decode cL_law 372 = .ok (.iaload, 1) := by decide +kernel
theorem dL_law_373 : decode cL_law 373 = .ok (.invokevirtual 49, 3) := by decide +kernel
theorem dL_law_376 : decode cL_law 376 = .ok (.aload_n 2, 1) := by decide +kernel
theorem dL_law_377 : decode cL_law 377 = .ok (.aload_n 0, 1) := by decide +kernel
theorem dL_law_378 : decode cL_law 378 = .ok (.iload_n 3, 1) := by decide +kernel
theorem dL_law_379 : decode cL_law 379 = .ok (.iconst 1, 1) := by decide +kernel
theorem dL_law_380 : decode cL_law 380 = .ok (.iadd, 1) := by decide +kernel
theorem dL_law_381 : decode cL_law 381 = .ok (.iaload, 1) := by decide +kernel
theorem dL_law_382 : decode cL_law 382 = .ok (.aload_n 0, 1) := by decide +kernel
theorem dL_law_383 : decode cL_law 383 = .ok (.iload_n 3, 1) := by decide +kernel
theorem dL_law_384 : decode cL_law 384 = .ok (.iconst 2, 1) := by decide +kernel
theorem dL_law_385 : decode cL_law 385 = .ok (.iadd, 1) := by decide +kernel
theorem dL_law_386 : decode cL_law 386 = .ok (.iaload, 1) := by decide +kernel
theorem dL_law_387 : decode cL_law 387 = .ok (.invokevirtual 52, 3) := by decide +kernel
theorem dL_law_390 : decode cL_law 390 = .ok (.if_icmp .eq 711, 3) := by decide +kernel
theorem dL_law_393 : decode cL_law 393 = .ok (.iconst 0, 1) := by decide +kernel
theorem dL_law_394 : decode cL_law 394 = .ok (.ireturn, 1) := by decide +kernel
theorem dL_law_395 : decode cL_law 395 = .ok (.aload_n 1, 1) := by decide +kernel
theorem dL_law_396 : decode cL_law 396 = .ok (.invokevirtual 53, 3) := by decide +kernel
theorem dL_law_399 : decode cL_law 399 = .ok (.aload_n 2, 1) := by decide +kernel
theorem dL_law_400 : decode cL_law 400 = .ok (.invokevirtual 56, 3) := by decide +kernel
theorem dL_law_403 : decode cL_law 403 = .ok (.if_icmp .eq 698, 3) := by decide +kernel
theorem dL_law_406 : decode cL_law 406 = .ok (.iconst 0, 1) := by decide +kernel
theorem dL_law_407 : decode cL_law 407 = .ok (.ireturn, 1) := by decide +kernel
theorem dL_law_408 : decode cL_law 408 = .ok (.aload_n 1, 1) := by decide +kernel
theorem dL_law_409 : decode cL_law 409 = .ok (.aload_n 0, 1) := by decide +kernel
theorem dL_law_410 : decode cL_law 410 = .ok (.iload_n 3, 1) := by decide +kernel
theorem dL_law_411 : decode cL_law 411 = .ok (.iconst 1, 1) := by decide +kernel
theorem dL_law_412 : decode cL_law 412 = .ok (.iadd, 1) := by decide +kernel
theorem dL_law_413 : decode cL_law 413 = .ok (.iaload, 1) := by decide +kernel
theorem dL_law_414 : decode cL_law 414 = .ok (.aload_n 0, 1) := by decide +kernel
theorem dL_law_415 : decode cL_law 415 = .ok (.iload_n 3, 1) := by decide +kernel
theorem dL_law_416 : decode cL_law 416 = .ok (.iconst 2, 1) := by decide +kernel
theorem dL_law_417 : decode cL_law 417 = .ok (.iadd, 1) := by decide +kernel
theorem dL_law_418 : decode cL_law 418 = .ok (.iaload, 1) := by decide +kernel
theorem dL_law_419 : decode cL_law 419 = .ok (.invokevirtual 57, 3) := by decide +kernel
theorem dL_law_422 : decode cL_law 422 = .ok (.aload_n 2, 1) := by decide +kernel
theorem dL_law_423 : decode cL_law 423 = .ok (.aload_n 0, 1) := by decide +kernel
theorem dL_law_424 : decode cL_law 424 = .ok (.iload_n 3, 1) := by decide +kernel
theorem dL_law_425 : decode cL_law 425 = .ok (.iconst 1, 1) := by decide +kernel
theorem dL_law_426 : decode cL_law 426 = .ok (.iadd, 1) := by decide +kernel
theorem dL_law_427 : decode cL_law 427 = .ok (.iaload, 1) := by decide +kernel
theorem dL_law_428 : decode cL_law 428 = .ok (.aload_n 0, 1) := by decide +kernel
theorem dL_law_429 : decode cL_law 429 = .ok (.iload_n 3, 1) := by decide +kernel
theorem dL_law_430 : decode cL_law 430 = .ok (.iconst 2, 1) := by decide +kernel
theorem dL_law_431 : decode cL_law 431 = .ok (.iadd, 1) := by decide +kernel
theorem dL_law_432 : decode cL_law 432 = .ok (.iaload, 1) := by decide +kernel
theorem dL_law_433 : decode cL_law 433 = .ok (.invokevirtual 60, 3) := by decide +kernel
theorem dL_law_436 : decode cL_law 436 = .ok (.if_icmp .eq 665, 3) := by decide +kernel
theorem dL_law_439 : decode cL_law 439 = .ok (.iconst 0, 1) := by decide +kernel
theorem dL_law_440 : decode cL_law 440 = .ok (.ireturn, 1) := by decide +kernel
theorem dL_law_441 : decode cL_law 441 = .ok (.aload_n 1, 1) := by decide +kernel
theorem dL_law_442 : decode cL_law 442 = .ok (.aload_n 0, 1) := by decide +kernel
theorem dL_law_443 : decode cL_law 443 = .ok (.iload_n 3, 1) := by decide +kernel
theorem dL_law_444 : decode cL_law 444 = .ok (.iconst 1, 1) := by decide +kernel
theorem dL_law_445 : decode cL_law 445 = .ok (.iadd, 1) := by decide +kernel
theorem dL_law_446 : decode cL_law 446 = .ok (.iaload, 1) := by decide +kernel
theorem dL_law_447 : decode cL_law 447 = .ok (.aload_n 0, 1) := by decide +kernel
theorem dL_law_448 : decode cL_law 448 = .ok (.iload_n 3, 1) := by decide +kernel
theorem dL_law_449 : decode cL_law 449 = .ok (.iconst 2, 1) := by decide +kernel
theorem dL_law_450 : decode cL_law 450 = .ok (.iadd, 1) := by decide +kernel
theorem dL_law_451 : decode cL_law 451 = .ok (.iaload, 1) := by decide +kernel
theorem dL_law_452 : decode cL_law 452 = .ok (.invokevirtual 61, 3) := by decide +kernel
theorem dL_law_455 : decode cL_law 455 = .ok (.aload_n 2, 1) := by decide +kernel
theorem dL_law_456 : decode cL_law 456 = .ok (.aload_n 0, 1) := by decide +kernel
theorem dL_law_457 : decode cL_law 457 = .ok (.iload_n 3, 1) := by decide +kernel
theorem dL_law_458 : decode cL_law 458 = .ok (.iconst 1, 1) := by decide +kernel
theorem dL_law_459 : decode cL_law 459 = .ok (.iadd, 1) := by decide +kernel
theorem dL_law_460 : decode cL_law 460 = .ok (.iaload, 1) := by decide +kernel
theorem dL_law_461 : decode cL_law 461 = .ok (.aload_n 0, 1) := by decide +kernel
theorem dL_law_462 : decode cL_law 462 = .ok (.iload_n 3, 1) := by decide +kernel
theorem dL_law_463 : decode cL_law 463 = .ok (.iconst 2, 1) := by decide +kernel
theorem dL_law_464 : decode cL_law 464 = .ok (.iadd, 1) := by decide +kernel
theorem dL_law_465 : decode cL_law 465 = .ok (.iaload, 1) := by decide +kernel
theorem dL_law_466 : decode cL_law 466 = .ok (.invokevirtual 64, 3) := by decide +kernel
theorem dL_law_469 : decode cL_law 469 = .ok (.if_icmp .eq 632, 3) := by decide +kernel
theorem dL_law_472 : decode cL_law 472 = .ok (.iconst 0, 1) := by decide +kernel
theorem dL_law_473 : decode cL_law 473 = .ok (.ireturn, 1) := by decide +kernel
theorem dL_law_474 : decode cL_law 474 = .ok (.aload_n 1, 1) := by decide +kernel
theorem dL_law_475 : decode cL_law 475 = .ok (.aload_n 0, 1) := by decide +kernel
theorem dL_law_476 : decode cL_law 476 = .ok (.iload_n 3, 1) := by decide +kernel
theorem dL_law_477 : decode cL_law 477 = .ok (.iconst 1, 1) := by decide +kernel
theorem dL_law_478 : decode cL_law 478 = .ok (.iadd, 1) := by decide +kernel
theorem dL_law_479 : decode cL_law 479 = .ok (.iaload, 1) := by decide +kernel
theorem dL_law_480 : decode cL_law 480 = .ok (.aload_n 0, 1) := by decide +kernel
theorem dL_law_481 : decode cL_law 481 = .ok (.iload_n 3, 1) := by decide +kernel
theorem dL_law_482 : decode cL_law 482 = .ok (.iconst 2, 1) := by decide +kernel
theorem dL_law_483 : decode cL_law 483 = .ok (.iadd, 1) := by decide +kernel
theorem dL_law_484 : decode cL_law 484 = .ok (.iaload, 1) := by decide +kernel
theorem dL_law_485 : decode cL_law 485 = .ok (.invokevirtual 65, 3) := by decide +kernel
theorem dL_law_488 : decode cL_law 488 = .ok (.aload_n 2, 1) := by decide +kernel
theorem dL_law_489 : decode cL_law 489 = .ok (.aload_n 0, 1) := by decide +kernel
theorem dL_law_490 : decode cL_law 490 = .ok (.iload_n 3, 1) := by decide +kernel
theorem dL_law_491 : decode cL_law 491 = .ok (.iconst 1, 1) := by decide +kernel
theorem dL_law_492 : decode cL_law 492 = .ok (.iadd, 1) := by decide +kernel
theorem dL_law_493 : decode cL_law 493 = .ok (.iaload, 1) := by decide +kernel
theorem dL_law_494 : decode cL_law 494 = .ok (.aload_n 0, 1) := by decide +kernel
theorem dL_law_495 : decode cL_law 495 = .ok (.iload_n 3, 1) := by decide +kernel
theorem dL_law_496 : decode cL_law 496 = .ok (.iconst 2, 1) := by decide +kernel
theorem dL_law_497 : decode cL_law 497 = .ok (.iadd, 1) := by decide +kernel
theorem dL_law_498 : decode cL_law 498 = .ok (.iaload, 1) := by decide +kernel
theorem dL_law_499 : decode cL_law 499 = .ok (.invokevirtual 68, 3) := by decide +kernel
theorem dL_law_502 : decode cL_law 502 = .ok (.if_icmp .eq 599, 3) := by decide +kernel
theorem dL_law_505 : decode cL_law 505 = .ok (.iconst 0, 1) := by decide +kernel
theorem dL_law_506 : decode cL_law 506 = .ok (.ireturn, 1) := by decide +kernel
theorem dL_law_507 : decode cL_law 507 = .ok (.aload_n 1, 1) := by decide +kernel
theorem dL_law_508 : decode cL_law 508 = .ok (.aload_n 0, 1) := by decide +kernel
theorem dL_law_509 : decode cL_law 509 = .ok (.iload_n 3, 1) := by decide +kernel
theorem dL_law_510 : decode cL_law 510 = .ok (.iconst 1, 1) := by decide +kernel
theorem dL_law_511 : decode cL_law 511 = .ok (.iadd, 1) := by decide +kernel
theorem dL_law_512 : decode cL_law 512 = .ok (.iaload, 1) := by decide +kernel
theorem dL_law_513 : decode cL_law 513 = .ok (.aload_n 0, 1) := by decide +kernel
theorem dL_law_514 : decode cL_law 514 = .ok (.iload_n 3, 1) := by decide +kernel
theorem dL_law_515 : decode cL_law 515 = .ok (.iconst 2, 1) := by decide +kernel
theorem dL_law_516 : decode cL_law 516 = .ok (.iadd, 1) := by decide +kernel
theorem dL_law_517 : decode cL_law 517 = .ok (.iaload, 1) := by decide +kernel
theorem dL_law_518 : decode cL_law 518 = .ok (.aload_n 0, 1) := by decide +kernel
theorem dL_law_519 : decode cL_law 519 = .ok (.iload_n 3, 1) := by decide +kernel
theorem dL_law_520 : decode cL_law 520 = .ok (.iconst 3, 1) := by decide +kernel
theorem dL_law_521 : decode cL_law 521 = .ok (.iadd, 1) := by decide +kernel
theorem dL_law_522 : decode cL_law 522 = .ok (.iaload, 1) := by decide +kernel
theorem dL_law_523 : decode cL_law 523 = .ok (.invokevirtual 69, 3) := by decide +kernel
theorem dL_law_526 : decode cL_law 526 = .ok (.aload_n 2, 1) := by decide +kernel
theorem dL_law_527 : decode cL_law 527 = .ok (.aload_n 0, 1) := by decide +kernel
theorem dL_law_528 : decode cL_law 528 = .ok (.iload_n 3, 1) := by decide +kernel
theorem dL_law_529 : decode cL_law 529 = .ok (.iconst 1, 1) := by decide +kernel
theorem dL_law_530 : decode cL_law 530 = .ok (.iadd, 1) := by decide +kernel
theorem dL_law_531 : decode cL_law 531 = .ok (.iaload, 1) := by decide +kernel
theorem dL_law_532 : decode cL_law 532 = .ok (.aload_n 0, 1) := by decide +kernel
theorem dL_law_533 : decode cL_law 533 = .ok (.iload_n 3, 1) := by decide +kernel
theorem dL_law_534 : decode cL_law 534 = .ok (.iconst 2, 1) := by decide +kernel
theorem dL_law_535 : decode cL_law 535 = .ok (.iadd, 1) := by decide +kernel
theorem dL_law_536 : decode cL_law 536 = .ok (.iaload, 1) := by decide +kernel
theorem dL_law_537 : decode cL_law 537 = .ok (.aload_n 0, 1) := by decide +kernel
theorem dL_law_538 : decode cL_law 538 = .ok (.iload_n 3, 1) := by decide +kernel
theorem dL_law_539 : decode cL_law 539 = .ok (.iconst 3, 1) := by decide +kernel
theorem dL_law_540 : decode cL_law 540 = .ok (.iadd, 1) := by decide +kernel
theorem dL_law_541 : decode cL_law 541 = .ok (.iaload, 1) := by decide +kernel
theorem dL_law_542 : decode cL_law 542 = .ok (.invokevirtual 72, 3) := by decide +kernel
theorem dL_law_545 : decode cL_law 545 = .ok (.if_icmp .eq 556, 3) := by decide +kernel
theorem dL_law_548 : decode cL_law 548 = .ok (.iconst 0, 1) := by decide +kernel
theorem dL_law_549 : decode cL_law 549 = .ok (.ireturn, 1) := by decide +kernel
theorem dL_law_550 : decode cL_law 550 = .ok (.aload_n 1, 1) := by decide +kernel
theorem dL_law_551 : decode cL_law 551 = .ok (.aload_n 0, 1) := by decide +kernel
theorem dL_law_552 : decode cL_law 552 = .ok (.iload_n 3, 1) := by decide +kernel
theorem dL_law_553 : decode cL_law 553 = .ok (.iconst 1, 1) := by decide +kernel
theorem dL_law_554 : decode cL_law 554 = .ok (.iadd, 1) := by decide +kernel
theorem dL_law_555 : decode cL_law 555 = .ok (.iaload, 1) := by decide +kernel
theorem dL_law_556 : decode cL_law 556 = .ok (.aload_n 0, 1) := by decide +kernel
theorem dL_law_557 : decode cL_law 557 = .ok (.iload_n 3, 1) := by decide +kernel
theorem dL_law_558 : decode cL_law 558 = .ok (.iconst 2, 1) := by decide +kernel
theorem dL_law_559 : decode cL_law 559 = .ok (.iadd, 1) := by decide +kernel
theorem dL_law_560 : decode cL_law 560 = .ok (.iaload, 1) := by decide +kernel
theorem dL_law_561 : decode cL_law 561 = .ok (.aload_n 0, 1) := by decide +kernel
theorem dL_law_562 : decode cL_law 562 = .ok (.iload_n 3, 1) := by decide +kernel
theorem dL_law_563 : decode cL_law 563 = .ok (.iconst 3, 1) := by decide +kernel
theorem dL_law_564 : decode cL_law 564 = .ok (.iadd, 1) := by decide +kernel
theorem dL_law_565 : decode cL_law 565 = .ok (.iaload, 1) := by decide +kernel
theorem dL_law_566 : decode cL_law 566 = .ok (.invokevirtual 73, 3) := by decide +kernel
theorem dL_law_569 : decode cL_law 569 = .ok (.aload_n 2, 1) := by decide +kernel
theorem dL_law_570 : decode cL_law 570 = .ok (.aload_n 0, 1) := by decide +kernel
theorem dL_law_571 : decode cL_law 571 = .ok (.iload_n 3, 1) := by decide +kernel
theorem dL_law_572 : decode cL_law 572 = .ok (.iconst 1, 1) := by decide +kernel
theorem dL_law_573 : decode cL_law 573 = .ok (.iadd, 1) := by decide +kernel
theorem dL_law_574 : decode cL_law 574 = .ok (.iaload, 1) := by decide +kernel
theorem dL_law_575 : decode cL_law 575 = .ok (.aload_n 0, 1) := by decide +kernel
theorem dL_law_576 : decode cL_law 576 = .ok (.iload_n 3, 1) := by decide +kernel
theorem dL_law_577 : decode cL_law 577 = .ok (.iconst 2, 1) := by decide +kernel
theorem dL_law_578 : decode cL_law 578 = .ok (.iadd, 1) := by decide +kernel
theorem dL_law_579 : decode cL_law 579 = .ok (.iaload, 1) := by decide +kernel
theorem dL_law_580 : decode cL_law 580 = .ok (.aload_n 0, 1) := by decide +kernel
theorem dL_law_581 : decode cL_law 581 = .ok (.iload_n 3, 1) := by decide +kernel
theorem dL_law_582 : decode cL_law 582 = .ok (.iconst 3, 1) := by decide +kernel
theorem dL_law_583 : decode cL_law 583 = .ok (.iadd, 1) := by decide +kernel
theorem dL_law_584 : decode cL_law 584 = .ok (.iaload, 1) := by decide +kernel
theorem dL_law_585 : decode cL_law 585 = .ok (.invokevirtual 76, 3) := by decide +kernel
theorem dL_law_588 : decode cL_law 588 = .ok (.if_icmp .eq 513, 3) := by decide +kernel
theorem dL_law_591 : decode cL_law 591 = .ok (.iconst 0, 1) := by decide +kernel
theorem dL_law_592 : decode cL_law 592 = .ok (.ireturn, 1) := by decide +kernel
theorem dL_law_593 : decode cL_law 593 = .ok (.aload_n 1, 1) := by decide +kernel
theorem dL_law_594 : decode cL_law 594 = .ok (.aload_n 0, 1) := by decide +kernel
theorem dL_law_595 : decode cL_law 595 = .ok (.iload_n 3, 1) := by decide +kernel
theorem dL_law_596 : decode cL_law 596 = .ok (.iconst 1, 1) := by decide +kernel
theorem dL_law_597 : decode cL_law 597 = .ok (.iadd, 1) := by decide +kernel
theorem dL_law_598 : decode cL_law 598 = .ok (.iaload, 1) := by decide +kernel
theorem dL_law_599 : decode cL_law 599 = .ok (.aload_n 0, 1) := by decide +kernel
theorem dL_law_600 : decode cL_law 600 = .ok (.iload_n 3, 1) := by decide +kernel
theorem dL_law_601 : decode cL_law 601 = .ok (.iconst 2, 1) := by decide +kernel
theorem dL_law_602 : decode cL_law 602 = .ok (.iadd, 1) := by decide +kernel
theorem dL_law_603 : decode cL_law 603 = .ok (.iaload, 1) := by decide +kernel
theorem dL_law_604 : decode cL_law 604 = .ok (.aload_n 0, 1) := by decide +kernel
theorem dL_law_605 : decode cL_law 605 = .ok (.iload_n 3, 1) := by decide +kernel
theorem dL_law_606 : decode cL_law 606 = .ok (.iconst 3, 1) := by decide +kernel
theorem dL_law_607 : decode cL_law 607 = .ok (.iadd, 1) := by decide +kernel
theorem dL_law_608 : decode cL_law 608 = .ok (.iaload, 1) := by decide +kernel
theorem dL_law_609 : decode cL_law 609 = .ok (.aload_n 0, 1) := by decide +kernel
theorem dL_law_610 : decode cL_law 610 = .ok (.iload_n 3, 1) := by decide +kernel
theorem dL_law_611 : decode cL_law 611 = .ok (.iconst 4, 1) := by decide +kernel
theorem dL_law_612 : decode cL_law 612 = .ok (.iadd, 1) := by decide +kernel
theorem dL_law_613 : decode cL_law 613 = .ok (.iaload, 1) := by decide +kernel
theorem dL_law_614 : decode cL_law 614 = .ok (.invokevirtual 77, 3) := by decide +kernel
theorem dL_law_617 : decode cL_law 617 = .ok (.aload_n 2, 1) := by decide +kernel
theorem dL_law_618 : decode cL_law 618 = .ok (.aload_n 0, 1) := by decide +kernel
theorem dL_law_619 : decode cL_law 619 = .ok (.iload_n 3, 1) := by decide +kernel
theorem dL_law_620 : decode cL_law 620 = .ok (.iconst 1, 1) := by decide +kernel
theorem dL_law_621 : decode cL_law 621 = .ok (.iadd, 1) := by decide +kernel
theorem dL_law_622 : decode cL_law 622 = .ok (.iaload, 1) := by decide +kernel
theorem dL_law_623 : decode cL_law 623 = .ok (.aload_n 0, 1) := by decide +kernel
theorem dL_law_624 : decode cL_law 624 = .ok (.iload_n 3, 1) := by decide +kernel
theorem dL_law_625 : decode cL_law 625 = .ok (.iconst 2, 1) := by decide +kernel
theorem dL_law_626 : decode cL_law 626 = .ok (.iadd, 1) := by decide +kernel
theorem dL_law_627 : decode cL_law 627 = .ok (.iaload, 1) := by decide +kernel
theorem dL_law_628 : decode cL_law 628 = .ok (.aload_n 0, 1) := by decide +kernel
theorem dL_law_629 : decode cL_law 629 = .ok (.iload_n 3, 1) := by decide +kernel
theorem dL_law_630 : decode cL_law 630 = .ok (.iconst 3, 1) := by decide +kernel
theorem dL_law_631 : decode cL_law 631 = .ok (.iadd, 1) := by decide +kernel
theorem dL_law_632 : decode cL_law 632 = .ok (.iaload, 1) := by decide +kernel
theorem dL_law_633 : decode cL_law 633 = .ok (.aload_n 0, 1) := by decide +kernel
theorem dL_law_634 : decode cL_law 634 = .ok (.iload_n 3, 1) := by decide +kernel
theorem dL_law_635 : decode cL_law 635 = .ok (.iconst 4, 1) := by decide +kernel
theorem dL_law_636 : decode cL_law 636 = .ok (.iadd, 1) := by decide +kernel
theorem dL_law_637 : decode cL_law 637 = .ok (.iaload, 1) := by decide +kernel
theorem dL_law_638 : decode cL_law 638 = .ok (.invokevirtual 81, 3) := by decide +kernel
theorem dL_law_641 : decode cL_law 641 = .ok (.lcmp, 1) := by decide +kernel
theorem dL_law_642 : decode cL_law 642 = .ok (.ifCond .eq 459, 3) := by decide +kernel
theorem dL_law_645 : decode cL_law 645 = .ok (.iconst 0, 1) := by decide +kernel
theorem dL_law_646 : decode cL_law 646 = .ok (.ireturn, 1) := by decide +kernel
theorem dL_law_647 : decode cL_law 647 = .ok (.aload_n 1, 1) := by decide +kernel
theorem dL_law_648 : decode cL_law 648 = .ok (.aload_n 0, 1) := by decide +kernel
theorem dL_law_649 : decode cL_law 649 = .ok (.iload_n 3, 1) := by decide +kernel
theorem dL_law_650 : decode cL_law 650 = .ok (.iconst 1, 1) := by decide +kernel
theorem dL_law_651 : decode cL_law 651 = .ok (.iadd, 1) := by decide +kernel
theorem dL_law_652 : decode cL_law 652 = .ok (.iaload, 1) := by decide +kernel
theorem dL_law_653 : decode cL_law 653 = .ok (.aload_n 0, 1) := by decide +kernel
theorem dL_law_654 : decode cL_law 654 = .ok (.iload_n 3, 1) := by decide +kernel
theorem dL_law_655 : decode cL_law 655 = .ok (.iconst 2, 1) := by decide +kernel
theorem dL_law_656 : decode cL_law 656 = .ok (.iadd, 1) := by decide +kernel
theorem dL_law_657 : decode cL_law 657 = .ok (.iaload, 1) := by decide +kernel
theorem dL_law_658 : decode cL_law 658 = .ok (.aload_n 0, 1) := by decide +kernel
theorem dL_law_659 : decode cL_law 659 = .ok (.iload_n 3, 1) := by decide +kernel
theorem dL_law_660 : decode cL_law 660 = .ok (.iconst 3, 1) := by decide +kernel
theorem dL_law_661 : decode cL_law 661 = .ok (.iadd, 1) := by decide +kernel
theorem dL_law_662 : decode cL_law 662 = .ok (.iaload, 1) := by decide +kernel
theorem dL_law_663 : decode cL_law 663 = .ok (.invokevirtual 82, 3) := by decide +kernel
theorem dL_law_666 : decode cL_law 666 = .ok (.aload_n 2, 1) := by decide +kernel
theorem dL_law_667 : decode cL_law 667 = .ok (.aload_n 0, 1) := by decide +kernel
theorem dL_law_668 : decode cL_law 668 = .ok (.iload_n 3, 1) := by decide +kernel
theorem dL_law_669 : decode cL_law 669 = .ok (.iconst 1, 1) := by decide +kernel
theorem dL_law_670 : decode cL_law 670 = .ok (.iadd, 1) := by decide +kernel
theorem dL_law_671 : decode cL_law 671 = .ok (.iaload, 1) := by decide +kernel
theorem dL_law_672 : decode cL_law 672 = .ok (.aload_n 0, 1) := by decide +kernel
theorem dL_law_673 : decode cL_law 673 = .ok (.iload_n 3, 1) := by decide +kernel
theorem dL_law_674 : decode cL_law 674 = .ok (.iconst 2, 1) := by decide +kernel
theorem dL_law_675 : decode cL_law 675 = .ok (.iadd, 1) := by decide +kernel
theorem dL_law_676 : decode cL_law 676 = .ok (.iaload, 1) := by decide +kernel
theorem dL_law_677 : decode cL_law 677 = .ok (.aload_n 0, 1) := by decide +kernel
theorem dL_law_678 : decode cL_law 678 = .ok (.iload_n 3, 1) := by decide +kernel
theorem dL_law_679 : decode cL_law 679 = .ok (.iconst 3, 1) := by decide +kernel
theorem dL_law_680 : decode cL_law 680 = .ok (.iadd, 1) := by decide +kernel
theorem dL_law_681 : decode cL_law 681 = .ok (.iaload, 1) := by decide +kernel
theorem dL_law_682 : decode cL_law 682 = .ok (.invokevirtual 85, 3) := by decide +kernel
theorem dL_law_685 : decode cL_law 685 = .ok (.if_icmp .eq 416, 3) := by decide +kernel
theorem dL_law_688 : decode cL_law 688 = .ok (.iconst 0, 1) := by decide +kernel
theorem dL_law_689 : decode cL_law 689 = .ok (.ireturn, 1) := by decide +kernel
theorem dL_law_690 : decode cL_law 690 = .ok (.aload_n 1, 1) := by decide +kernel
theorem dL_law_691 : decode cL_law 691 = .ok (.aload_n 0, 1) := by decide +kernel
theorem dL_law_692 : decode cL_law 692 = .ok (.iload_n 3, 1) := by decide +kernel
theorem dL_law_693 : decode cL_law 693 = .ok (.iconst 1, 1) := by decide +kernel
theorem dL_law_694 : decode cL_law 694 = .ok (.iadd, 1) := by decide +kernel
theorem dL_law_695 : decode cL_law 695 = .ok (.iaload, 1) := by decide +kernel
theorem dL_law_696 : decode cL_law 696 = .ok (.aload_n 0, 1) := by decide +kernel
theorem dL_law_697 : decode cL_law 697 = .ok (.iload_n 3, 1) := by decide +kernel
theorem dL_law_698 : decode cL_law 698 = .ok (.iconst 2, 1) := by decide +kernel
theorem dL_law_699 : decode cL_law 699 = .ok (.iadd, 1) := by decide +kernel
theorem dL_law_700 : decode cL_law 700 = .ok (.iaload, 1) := by decide +kernel
theorem dL_law_701 : decode cL_law 701 = .ok (.invokevirtual 86, 3) := by decide +kernel
theorem dL_law_704 : decode cL_law 704 = .ok (.aload_n 2, 1) := by decide +kernel
theorem dL_law_705 : decode cL_law 705 = .ok (.aload_n 0, 1) := by decide +kernel
theorem dL_law_706 : decode cL_law 706 = .ok (.iload_n 3, 1) := by decide +kernel
theorem dL_law_707 : decode cL_law 707 = .ok (.iconst 1, 1) := by decide +kernel
theorem dL_law_708 : decode cL_law 708 = .ok (.iadd, 1) := by decide +kernel
theorem dL_law_709 : decode cL_law 709 = .ok (.iaload, 1) := by decide +kernel
theorem dL_law_710 : decode cL_law 710 = .ok (.aload_n 0, 1) := by decide +kernel
theorem dL_law_711 : decode cL_law 711 = .ok (.iload_n 3, 1) := by decide +kernel
theorem dL_law_712 : decode cL_law 712 = .ok (.iconst 2, 1) := by decide +kernel
theorem dL_law_713 : decode cL_law 713 = .ok (.iadd, 1) := by decide +kernel
theorem dL_law_714 : decode cL_law 714 = .ok (.iaload, 1) := by decide +kernel
theorem dL_law_715 : decode cL_law 715 = .ok (.invokevirtual 90, 3) := by decide +kernel
theorem dL_law_718 : decode cL_law 718 = .ok (.lcmp, 1) := by decide +kernel
theorem dL_law_719 : decode cL_law 719 = .ok (.ifCond .eq 382, 3) := by decide +kernel
theorem dL_law_722 : decode cL_law 722 = .ok (.iconst 0, 1) := by decide +kernel
theorem dL_law_723 : decode cL_law 723 = .ok (.ireturn, 1) := by decide +kernel
theorem dL_law_724 : decode cL_law 724 = .ok (.aload_n 1, 1) := by decide +kernel
theorem dL_law_725 : decode cL_law 725 = .ok (.aload_n 0, 1) := by decide +kernel
theorem dL_law_726 : decode cL_law 726 = .ok (.iload_n 3, 1) := by decide +kernel
theorem dL_law_727 : decode cL_law 727 = .ok (.iconst 1, 1) := by decide +kernel
theorem dL_law_728 : decode cL_law 728 = .ok (.iadd, 1) := by decide +kernel
theorem dL_law_729 : decode cL_law 729 = .ok (.iaload, 1) := by decide +kernel
theorem dL_law_730 : decode cL_law 730 = .ok (.aload_n 0, 1) := by decide +kernel
theorem dL_law_731 : decode cL_law 731 = .ok (.iload_n 3, 1) := by decide +kernel
theorem dL_law_732 : decode cL_law 732 = .ok (.iconst 2, 1) := by decide +kernel
theorem dL_law_733 : decode cL_law 733 = .ok (.iadd, 1) := by decide +kernel
theorem dL_law_734 : decode cL_law 734 = .ok (.iaload, 1) := by decide +kernel
theorem dL_law_735 : decode cL_law 735 = .ok (.aload_n 0, 1) := by decide +kernel
theorem dL_law_736 : decode cL_law 736 = .ok (.iload_n 3, 1) := by decide +kernel
theorem dL_law_737 : decode cL_law 737 = .ok (.iconst 3, 1) := by decide +kernel
theorem dL_law_738 : decode cL_law 738 = .ok (.iadd, 1) := by decide +kernel
theorem dL_law_739 : decode cL_law 739 = .ok (.iaload, 1) := by decide +kernel
theorem dL_law_740 : decode cL_law 740 = .ok (.invokevirtual 91, 3) := by decide +kernel
theorem dL_law_743 : decode cL_law 743 = .ok (.aload_n 2, 1) := by decide +kernel
theorem dL_law_744 : decode cL_law 744 = .ok (.aload_n 0, 1) := by decide +kernel
theorem dL_law_745 : decode cL_law 745 = .ok (.iload_n 3, 1) := by decide +kernel
theorem dL_law_746 : decode cL_law 746 = .ok (.iconst 1, 1) := by decide +kernel
theorem dL_law_747 : decode cL_law 747 = .ok (.iadd, 1) := by decide +kernel
theorem dL_law_748 : decode cL_law 748 = .ok (.iaload, 1) := by decide +kernel
theorem dL_law_749 : decode cL_law 749 = .ok (.aload_n 0, 1) := by decide +kernel
theorem dL_law_750 : decode cL_law 750 = .ok (.iload_n 3, 1) := by decide +kernel
theorem dL_law_751 : decode cL_law 751 = .ok (.iconst 2, 1) := by decide +kernel
theorem dL_law_752 : decode cL_law 752 = .ok (.iadd, 1) := by decide +kernel
theorem dL_law_753 : decode cL_law 753 = .ok (.iaload, 1) := by decide +kernel
theorem dL_law_754 : decode cL_law 754 = .ok (.aload_n 0, 1) := by decide +kernel
theorem dL_law_755 : decode cL_law 755 = .ok (.iload_n 3, 1) := by decide +kernel
theorem dL_law_756 : decode cL_law 756 = .ok (.iconst 3, 1) := by decide +kernel
theorem dL_law_757 : decode cL_law 757 = .ok (.iadd, 1) := by decide +kernel
theorem dL_law_758 : decode cL_law 758 = .ok (.iaload, 1) := by decide +kernel
theorem dL_law_759 : decode cL_law 759 = .ok (.invokevirtual 95, 3) := by decide +kernel
theorem dL_law_762 : decode cL_law 762 = .ok (.lcmp, 1) := by decide +kernel
theorem dL_law_763 : decode cL_law 763 = .ok (.ifCond .eq 338, 3) := by decide +kernel
theorem dL_law_766 : decode cL_law 766 = .ok (.iconst 0, 1) := by decide +kernel
theorem dL_law_767 : decode cL_law 767 = .ok (.ireturn, 1) := by decide +kernel
theorem dL_law_768 : decode cL_law 768 = .ok (.aload_n 1, 1) := by decide +kernel
theorem dL_law_769 : decode cL_law 769 = .ok (.aload_n 0, 1) := by decide +kernel
theorem dL_law_770 : decode cL_law 770 = .ok (.iload_n 3, 1) := by decide +kernel
theorem dL_law_771 : decode cL_law 771 = .ok (.iconst 1, 1) := by decide +kernel
theorem dL_law_772 : decode cL_law 772 = .ok (.iadd, 1) := by decide +kernel
theorem dL_law_773 : decode cL_law 773 = .ok (.iaload, 1) := by decide +kernel
theorem dL_law_774 : decode cL_law 774 = .ok (.aload_n 0, 1) := by decide +kernel
theorem dL_law_775 : decode cL_law 775 = .ok (.iload_n 3, 1) := by decide +kernel
theorem dL_law_776 : decode cL_law 776 = .ok (.iconst 2, 1) := by decide +kernel
theorem dL_law_777 : decode cL_law 777 = .ok (.iadd, 1) := by decide +kernel
theorem dL_law_778 : decode cL_law 778 = .ok (.iaload, 1) := by decide +kernel
theorem dL_law_779 : decode cL_law 779 = .ok (.aload_n 0, 1) := by decide +kernel
theorem dL_law_780 : decode cL_law 780 = .ok (.iload_n 3, 1) := by decide +kernel
theorem dL_law_781 : decode cL_law 781 = .ok (.iconst 3, 1) := by decide +kernel
theorem dL_law_782 : decode cL_law 782 = .ok (.iadd, 1) := by decide +kernel
theorem dL_law_783 : decode cL_law 783 = .ok (.iaload, 1) := by decide +kernel
theorem dL_law_784 : decode cL_law 784 = .ok (.invokevirtual 96, 3) := by decide +kernel
theorem dL_law_787 : decode cL_law 787 = .ok (.aload_n 2, 1) := by decide +kernel
theorem dL_law_788 : decode cL_law 788 = .ok (.aload_n 0, 1) := by decide +kernel
theorem dL_law_789 : decode cL_law 789 = .ok (.iload_n 3, 1) := by decide +kernel
theorem dL_law_790 : decode cL_law 790 = .ok (.iconst 1, 1) := by decide +kernel
theorem dL_law_791 : decode cL_law 791 = .ok (.iadd, 1) := by decide +kernel
theorem dL_law_792 : decode cL_law 792 = .ok (.iaload, 1) := by decide +kernel
theorem dL_law_793 : decode cL_law 793 = .ok (.aload_n 0, 1) := by decide +kernel
theorem dL_law_794 : decode cL_law 794 = .ok (.iload_n 3, 1) := by decide +kernel
theorem dL_law_795 : decode cL_law 795 = .ok (.iconst 2, 1) := by decide +kernel
theorem dL_law_796 : decode cL_law 796 = .ok (.iadd, 1) := by decide +kernel
theorem dL_law_797 : decode cL_law 797 = .ok (.iaload, 1) := by decide +kernel
theorem dL_law_798 : decode cL_law 798 = .ok (.aload_n 0, 1) := by decide +kernel
theorem dL_law_799 : decode cL_law 799 = .ok (.iload_n 3, 1) := by decide +kernel
theorem dL_law_800 : decode cL_law 800 = .ok (.iconst 3, 1) := by decide +kernel
theorem dL_law_801 : decode cL_law 801 = .ok (.iadd, 1) := by decide +kernel
theorem dL_law_802 : decode cL_law 802 = .ok (.iaload, 1) := by decide +kernel
theorem dL_law_803 : decode cL_law 803 = .ok (.invokevirtual 99, 3) := by decide +kernel
theorem dL_law_806 : decode cL_law 806 = .ok (.if_icmp .eq 295, 3) := by decide +kernel
theorem dL_law_809 : decode cL_law 809 = .ok (.iconst 0, 1) := by decide +kernel
theorem dL_law_810 : decode cL_law 810 = .ok (.ireturn, 1) := by decide +kernel
theorem dL_law_811 : decode cL_law 811 = .ok (.aload_n 1, 1) := by decide +kernel
theorem dL_law_812 : decode cL_law 812 = .ok (.aload_n 0, 1) := by decide +kernel
theorem dL_law_813 : decode cL_law 813 = .ok (.iload_n 3, 1) := by decide +kernel
theorem dL_law_814 : decode cL_law 814 = .ok (.iconst 1, 1) := by decide +kernel
theorem dL_law_815 : decode cL_law 815 = .ok (.iadd, 1) := by decide +kernel
theorem dL_law_816 : decode cL_law 816 = .ok (.iaload, 1) := by decide +kernel
theorem dL_law_817 : decode cL_law 817 = .ok (.aload_n 0, 1) := by decide +kernel
theorem dL_law_818 : decode cL_law 818 = .ok (.iload_n 3, 1) := by decide +kernel
theorem dL_law_819 : decode cL_law 819 = .ok (.iconst 2, 1) := by decide +kernel
theorem dL_law_820 : decode cL_law 820 = .ok (.iadd, 1) := by decide +kernel
theorem dL_law_821 : decode cL_law 821 = .ok (.iaload, 1) := by decide +kernel
theorem dL_law_822 : decode cL_law 822 = .ok (.aload_n 0, 1) := by decide +kernel
theorem dL_law_823 : decode cL_law 823 = .ok (.iload_n 3, 1) := by decide +kernel
theorem dL_law_824 : decode cL_law 824 = .ok (.iconst 3, 1) := by decide +kernel
theorem dL_law_825 : decode cL_law 825 = .ok (.iadd, 1) := by decide +kernel
theorem dL_law_826 : decode cL_law 826 = .ok (.iaload, 1) := by decide +kernel
theorem dL_law_827 : decode cL_law 827 = .ok (.invokevirtual 100, 3) := by decide +kernel
theorem dL_law_830 : decode cL_law 830 = .ok (.aload_n 2, 1) := by decide +kernel
theorem dL_law_831 : decode cL_law 831 = .ok (.aload_n 0, 1) := by decide +kernel
theorem dL_law_832 : decode cL_law 832 = .ok (.iload_n 3, 1) := by decide +kernel
theorem dL_law_833 : decode cL_law 833 = .ok (.iconst 1, 1) := by decide +kernel
theorem dL_law_834 : decode cL_law 834 = .ok (.iadd, 1) := by decide +kernel
theorem dL_law_835 : decode cL_law 835 = .ok (.iaload, 1) := by decide +kernel
theorem dL_law_836 : decode cL_law 836 = .ok (.aload_n 0, 1) := by decide +kernel
theorem dL_law_837 : decode cL_law 837 = .ok (.iload_n 3, 1) := by decide +kernel
theorem dL_law_838 : decode cL_law 838 = .ok (.iconst 2, 1) := by decide +kernel
theorem dL_law_839 : decode cL_law 839 = .ok (.iadd, 1) := by decide +kernel
theorem dL_law_840 : decode cL_law 840 = .ok (.iaload, 1) := by decide +kernel
theorem dL_law_841 : decode cL_law 841 = .ok (.aload_n 0, 1) := by decide +kernel
theorem dL_law_842 : decode cL_law 842 = .ok (.iload_n 3, 1) := by decide +kernel
theorem dL_law_843 : decode cL_law 843 = .ok (.iconst 3, 1) := by decide +kernel
theorem dL_law_844 : decode cL_law 844 = .ok (.iadd, 1) := by decide +kernel
theorem dL_law_845 : decode cL_law 845 = .ok (.iaload, 1) := by decide +kernel
theorem dL_law_846 : decode cL_law 846 = .ok (.invokevirtual 103, 3) := by decide +kernel
theorem dL_law_849 : decode cL_law 849 = .ok (.if_icmp .eq 252, 3) := by decide +kernel
theorem dL_law_852 : decode cL_law 852 = .ok (.iconst 0, 1) := by decide +kernel
theorem dL_law_853 : decode cL_law 853 = .ok (.ireturn, 1) := by decide +kernel
theorem dL_law_854 : decode cL_law 854 = .ok (.aload_n 1, 1) := by decide +kernel
theorem dL_law_855 : decode cL_law 855 = .ok (.aload_n 0, 1) := by decide +kernel
theorem dL_law_856 : decode cL_law 856 = .ok (.iload_n 3, 1) := by decide +kernel
theorem dL_law_857 : decode cL_law 857 = .ok (.iconst 1, 1) := by decide +kernel
theorem dL_law_858 : decode cL_law 858 = .ok (.iadd, 1) := by decide +kernel
theorem dL_law_859 : decode cL_law 859 = .ok (.iaload, 1) := by decide +kernel
theorem dL_law_860 : decode cL_law 860 = .ok (.aload_n 0, 1) := by decide +kernel
theorem dL_law_861 : decode cL_law 861 = .ok (.iload_n 3, 1) := by decide +kernel
theorem dL_law_862 : decode cL_law 862 = .ok (.iconst 2, 1) := by decide +kernel
theorem dL_law_863 : decode cL_law 863 = .ok (.iadd, 1) := by decide +kernel
theorem dL_law_864 : decode cL_law 864 = .ok (.iaload, 1) := by decide +kernel
theorem dL_law_865 : decode cL_law 865 = .ok (.invokevirtual 104, 3) := by decide +kernel
theorem dL_law_868 : decode cL_law 868 = .ok (.aload_n 2, 1) := by decide +kernel
theorem dL_law_869 : decode cL_law 869 = .ok (.aload_n 0, 1) := by decide +kernel
theorem dL_law_870 : decode cL_law 870 = .ok (.iload_n 3, 1) := by decide +kernel
theorem dL_law_871 : decode cL_law 871 = .ok (.iconst 1, 1) := by decide +kernel
theorem dL_law_872 : decode cL_law 872 = .ok (.iadd, 1) := by decide +kernel
theorem dL_law_873 : decode cL_law 873 = .ok (.iaload, 1) := by decide +kernel
theorem dL_law_874 : decode cL_law 874 = .ok (.aload_n 0, 1) := by decide +kernel
theorem dL_law_875 : decode cL_law 875 = .ok (.iload_n 3, 1) := by decide +kernel
theorem dL_law_876 : decode cL_law 876 = .ok (.iconst 2, 1) := by decide +kernel
theorem dL_law_877 : decode cL_law 877 = .ok (.iadd, 1) := by decide +kernel
theorem dL_law_878 : decode cL_law 878 = .ok (.iaload, 1) := by decide +kernel
theorem dL_law_879 : decode cL_law 879 = .ok (.invokevirtual 107, 3) := by decide +kernel
theorem dL_law_882 : decode cL_law 882 = .ok (.if_icmp .eq 219, 3) := by decide +kernel
theorem dL_law_885 : decode cL_law 885 = .ok (.iconst 0, 1) := by decide +kernel
theorem dL_law_886 : decode cL_law 886 = .ok (.ireturn, 1) := by decide +kernel
theorem dL_law_887 : decode cL_law 887 = .ok (.aload_n 1, 1) := by decide +kernel
theorem dL_law_888 : decode cL_law 888 = .ok (.aload_n 0, 1) := by decide +kernel
theorem dL_law_889 : decode cL_law 889 = .ok (.iload_n 3, 1) := by decide +kernel
theorem dL_law_890 : decode cL_law 890 = .ok (.iconst 1, 1) := by decide +kernel
theorem dL_law_891 : decode cL_law 891 = .ok (.iadd, 1) := by decide +kernel
theorem dL_law_892 : decode cL_law 892 = .ok (.iaload, 1) := by decide +kernel
theorem dL_law_893 : decode cL_law 893 = .ok (.aload_n 0, 1) := by decide +kernel
theorem dL_law_894 : decode cL_law 894 = .ok (.iload_n 3, 1) := by decide +kernel
theorem dL_law_895 : decode cL_law 895 = .ok (.iconst 2, 1) := by decide +kernel
theorem dL_law_896 : decode cL_law 896 = .ok (.iadd, 1) := by decide +kernel
theorem dL_law_897 : decode cL_law 897 = .ok (.iaload, 1) := by decide +kernel
theorem dL_law_898 : decode cL_law 898 = .ok (.invokevirtual 108, 3) := by decide +kernel
theorem dL_law_901 : decode cL_law 901 = .ok (.aload_n 2, 1) := by decide +kernel
theorem dL_law_902 : decode cL_law 902 = .ok (.aload_n 0, 1) := by decide +kernel
theorem dL_law_903 : decode cL_law 903 = .ok (.iload_n 3, 1) := by decide +kernel
theorem dL_law_904 : decode cL_law 904 = .ok (.iconst 1, 1) := by decide +kernel
theorem dL_law_905 : decode cL_law 905 = .ok (.iadd, 1) := by decide +kernel
theorem dL_law_906 : decode cL_law 906 = .ok (.iaload, 1) := by decide +kernel
theorem dL_law_907 : decode cL_law 907 = .ok (.aload_n 0, 1) := by decide +kernel
theorem dL_law_908 : decode cL_law 908 = .ok (.iload_n 3, 1) := by decide +kernel
theorem dL_law_909 : decode cL_law 909 = .ok (.iconst 2, 1) := by decide +kernel
theorem dL_law_910 : decode cL_law 910 = .ok (.iadd, 1) := by decide +kernel
theorem dL_law_911 : decode cL_law 911 = .ok (.iaload, 1) := by decide +kernel
theorem dL_law_912 : decode cL_law 912 = .ok (.invokevirtual 111, 3) := by decide +kernel
theorem dL_law_915 : decode cL_law 915 = .ok (.if_icmp .eq 186, 3) := by decide +kernel
theorem dL_law_918 : decode cL_law 918 = .ok (.iconst 0, 1) := by decide +kernel
theorem dL_law_919 : decode cL_law 919 = .ok (.ireturn, 1) := by decide +kernel
theorem dL_law_920 : decode cL_law 920 = .ok (.aload_n 1, 1) := by decide +kernel
theorem dL_law_921 : decode cL_law 921 = .ok (.aload_n 0, 1) := by decide +kernel
theorem dL_law_922 : decode cL_law 922 = .ok (.iload_n 3, 1) := by decide +kernel
theorem dL_law_923 : decode cL_law 923 = .ok (.iconst 1, 1) := by decide +kernel
theorem dL_law_924 : decode cL_law 924 = .ok (.iadd, 1) := by decide +kernel
theorem dL_law_925 : decode cL_law 925 = .ok (.iaload, 1) := by decide +kernel
theorem dL_law_926 : decode cL_law 926 = .ok (.invokevirtual 112, 3) := by decide +kernel
theorem dL_law_929 : decode cL_law 929 = .ok (.aload_n 2, 1) := by decide +kernel
theorem dL_law_930 : decode cL_law 930 = .ok (.aload_n 0, 1) := by decide +kernel
theorem dL_law_931 : decode cL_law 931 = .ok (.iload_n 3, 1) := by decide +kernel
theorem dL_law_932 : decode cL_law 932 = .ok (.iconst 1, 1) := by decide +kernel
theorem dL_law_933 : decode cL_law 933 = .ok (.iadd, 1) := by decide +kernel
theorem dL_law_934 : decode cL_law 934 = .ok (.iaload, 1) := by decide +kernel
theorem dL_law_935 : decode cL_law 935 = .ok (.invokevirtual 115, 3) := by decide +kernel
theorem dL_law_938 : decode cL_law 938 = .ok (.if_icmp .eq 163, 3) := by decide +kernel
theorem dL_law_941 : decode cL_law 941 = .ok (.iconst 0, 1) := by decide +kernel
theorem dL_law_942 : decode cL_law 942 = .ok (.ireturn, 1) := by decide +kernel
theorem dL_law_943 : decode cL_law 943 = .ok (.aload_n 1, 1) := by decide +kernel
theorem dL_law_944 : decode cL_law 944 = .ok (.invokevirtual 116, 3) := by decide +kernel
theorem dL_law_947 : decode cL_law 947 = .ok (.aload_n 2, 1) := by decide +kernel
theorem dL_law_948 : decode cL_law 948 = .ok (.invokevirtual 119, 3) := by decide +kernel
theorem dL_law_951 : decode cL_law 951 = .ok (.if_icmp .eq 150, 3) := by decide +kernel
theorem dL_law_954 : decode cL_law 954 = .ok (.iconst 0, 1) := by decide +kernel
theorem dL_law_955 : decode cL_law 955 = .ok (.ireturn, 1) := by decide +kernel
theorem dL_law_956 : decode cL_law 956 = .ok (.aload_n 1, 1) := by decide +kernel
theorem dL_law_957 : decode cL_law 957 = .ok (.aload_n 0, 1) := by decide +kernel
theorem dL_law_958 : decode cL_law 958 = .ok (.iload_n 3, 1) := by decide +kernel
theorem dL_law_959 : decode cL_law 959 = .ok (.iconst 1, 1) := by decide +kernel
theorem dL_law_960 : decode cL_law 960 = .ok (.iadd, 1) := by decide +kernel
theorem dL_law_961 : decode cL_law 961 = .ok (.iaload, 1) := by decide +kernel
theorem dL_law_962 : decode cL_law 962 = .ok (.aload_n 0, 1) := by decide +kernel
theorem dL_law_963 : decode cL_law 963 = .ok (.iload_n 3, 1) := by decide +kernel
theorem dL_law_964 : decode cL_law 964 = .ok (.iconst 2, 1) := by decide +kernel
theorem dL_law_965 : decode cL_law 965 = .ok (.iadd, 1) := by decide +kernel
theorem dL_law_966 : decode cL_law 966 = .ok (.iaload, 1) := by decide +kernel
theorem dL_law_967 : decode cL_law 967 = .ok (.invokevirtual 120, 3) := by decide +kernel
theorem dL_law_970 : decode cL_law 970 = .ok (.aload_n 2, 1) := by decide +kernel
theorem dL_law_971 : decode cL_law 971 = .ok (.aload_n 0, 1) := by decide +kernel
theorem dL_law_972 : decode cL_law 972 = .ok (.iload_n 3, 1) := by decide +kernel
theorem dL_law_973 : decode cL_law 973 = .ok (.iconst 1, 1) := by decide +kernel
theorem dL_law_974 : decode cL_law 974 = .ok (.iadd, 1) := by decide +kernel
theorem dL_law_975 : decode cL_law 975 = .ok (.iaload, 1) := by decide +kernel
theorem dL_law_976 : decode cL_law 976 = .ok (.aload_n 0, 1) := by decide +kernel
theorem dL_law_977 : decode cL_law 977 = .ok (.iload_n 3, 1) := by decide +kernel
theorem dL_law_978 : decode cL_law 978 = .ok (.iconst 2, 1) := by decide +kernel
theorem dL_law_979 : decode cL_law 979 = .ok (.iadd, 1) := by decide +kernel
theorem dL_law_980 : decode cL_law 980 = .ok (.iaload, 1) := by decide +kernel
theorem dL_law_981 : decode cL_law 981 = .ok (.invokevirtual 123, 3) := by decide +kernel
theorem dL_law_984 : decode cL_law 984 = .ok (.if_icmp .eq 117, 3) := by decide +kernel
theorem dL_law_987 : decode cL_law 987 = .ok (.iconst 0, 1) := by decide +kernel
theorem dL_law_988 : decode cL_law 988 = .ok (.ireturn, 1) := by decide +kernel
theorem dL_law_989 : decode cL_law 989 = .ok (.aload_n 1, 1) := by decide +kernel
theorem dL_law_990 : decode cL_law 990 = .ok (.aload_n 0, 1) := by decide +kernel
theorem dL_law_991 : decode cL_law 991 = .ok (.iload_n 3, 1) := by decide +kernel
theorem dL_law_992 : decode cL_law 992 = .ok (.iconst 1, 1) := by decide +kernel
theorem dL_law_993 : decode cL_law 993 = .ok (.iadd, 1) := by decide +kernel
theorem dL_law_994 : decode cL_law 994 = .ok (.iaload, 1) := by decide +kernel
theorem dL_law_995 : decode cL_law 995 = .ok (.aload_n 0, 1) := by decide +kernel
theorem dL_law_996 : decode cL_law 996 = .ok (.iload_n 3, 1) := by decide +kernel
theorem dL_law_997 : decode cL_law 997 = .ok (.iconst 2, 1) := by decide +kernel
theorem dL_law_998 : decode cL_law 998 = .ok (.iadd, 1) := by decide +kernel
theorem dL_law_999 : decode cL_law 999 = .ok (.iaload, 1) := by decide +kernel
theorem dL_law_1000 : decode cL_law 1000 = .ok (.invokevirtual 124, 3) := by decide +kernel
theorem dL_law_1003 : decode cL_law 1003 = .ok (.aload_n 2, 1) := by decide +kernel
theorem dL_law_1004 : decode cL_law 1004 = .ok (.aload_n 0, 1) := by decide +kernel
theorem dL_law_1005 : decode cL_law 1005 = .ok (.iload_n 3, 1) := by decide +kernel
theorem dL_law_1006 : decode cL_law 1006 = .ok (.iconst 1, 1) := by decide +kernel
theorem dL_law_1007 : decode cL_law 1007 = .ok (.iadd, 1) := by decide +kernel
theorem dL_law_1008 : decode cL_law 1008 = .ok (.iaload, 1) := by decide +kernel
theorem dL_law_1009 : decode cL_law 1009 = .ok (.aload_n 0, 1) := by decide +kernel
theorem dL_law_1010 : decode cL_law 1010 = .ok (.iload_n 3, 1) := by decide +kernel
theorem dL_law_1011 : decode cL_law 1011 = .ok (.iconst 2, 1) := by decide +kernel
theorem dL_law_1012 : decode cL_law 1012 = .ok (.iadd, 1) := by decide +kernel
theorem dL_law_1013 : decode cL_law 1013 = .ok (.iaload, 1) := by decide +kernel
theorem dL_law_1014 : decode cL_law 1014 = .ok (.invokevirtual 127, 3) := by decide +kernel
theorem dL_law_1017 : decode cL_law 1017 = .ok (.if_icmp .eq 84, 3) := by decide +kernel
theorem dL_law_1020 : decode cL_law 1020 = .ok (.iconst 0, 1) := by decide +kernel
theorem dL_law_1021 : decode cL_law 1021 = .ok (.ireturn, 1) := by decide +kernel
theorem dL_law_1022 : decode cL_law 1022 = .ok (.aload_n 1, 1) := by decide +kernel
theorem dL_law_1023 : decode cL_law 1023 = .ok (.aload_n 0, 1) := by decide +kernel
theorem dL_law_1024 : decode cL_law 1024 = .ok (.iload_n 3, 1) := by decide +kernel
theorem dL_law_1025 : decode cL_law 1025 = .ok (.iconst 1, 1) := by decide +kernel
theorem dL_law_1026 : decode cL_law 1026 = .ok (.iadd, 1) := by decide +kernel
theorem dL_law_1027 : decode cL_law 1027 = .ok (.iaload, 1) := by decide +kernel
theorem dL_law_1028 : decode cL_law 1028 = .ok (.aload_n 0, 1) := by decide +kernel
theorem dL_law_1029 : decode cL_law 1029 = .ok (.iload_n 3, 1) := by decide +kernel
theorem dL_law_1030 : decode cL_law 1030 = .ok (.iconst 2, 1) := by decide +kernel
theorem dL_law_1031 : decode cL_law 1031 = .ok (.iadd, 1) := by decide +kernel
theorem dL_law_1032 : decode cL_law 1032 = .ok (.iaload, 1) := by decide +kernel
theorem dL_law_1033 : decode cL_law 1033 = .ok (.invokevirtual 128, 3) := by decide +kernel
theorem dL_law_1036 : decode cL_law 1036 = .ok (.aload_n 2, 1) := by decide +kernel
theorem dL_law_1037 : decode cL_law 1037 = .ok (.aload_n 0, 1) := by decide +kernel
theorem dL_law_1038 : decode cL_law 1038 = .ok (.iload_n 3, 1) := by decide +kernel
theorem dL_law_1039 : decode cL_law 1039 = .ok (.iconst 1, 1) := by decide +kernel
theorem dL_law_1040 : decode cL_law 1040 = .ok (.iadd, 1) := by decide +kernel
theorem dL_law_1041 : decode cL_law 1041 = .ok (.iaload, 1) := by decide +kernel
theorem dL_law_1042 : decode cL_law 1042 = .ok (.aload_n 0, 1) := by decide +kernel
theorem dL_law_1043 : decode cL_law 1043 = .ok (.iload_n 3, 1) := by decide +kernel
theorem dL_law_1044 : decode cL_law 1044 = .ok (.iconst 2, 1) := by decide +kernel
theorem dL_law_1045 : decode cL_law 1045 = .ok (.iadd, 1) := by decide +kernel
theorem dL_law_1046 : decode cL_law 1046 = .ok (.iaload, 1) := by decide +kernel
theorem dL_law_1047 : decode cL_law 1047 = .ok (.invokevirtual 131, 3) := by decide +kernel
theorem dL_law_1050 : decode cL_law 1050 = .ok (.if_icmp .eq 51, 3) := by decide +kernel
theorem dL_law_1053 : decode cL_law 1053 = .ok (.iconst 0, 1) := by decide +kernel
theorem dL_law_1054 : decode cL_law 1054 = .ok (.ireturn, 1) := by decide +kernel
theorem dL_law_1055 : decode cL_law 1055 = .ok (.aload_n 1, 1) := by decide +kernel
theorem dL_law_1056 : decode cL_law 1056 = .ok (.aload_n 0, 1) := by decide +kernel
theorem dL_law_1057 : decode cL_law 1057 = .ok (.iload_n 3, 1) := by decide +kernel
theorem dL_law_1058 : decode cL_law 1058 = .ok (.iconst 1, 1) := by decide +kernel
theorem dL_law_1059 : decode cL_law 1059 = .ok (.iadd, 1) := by decide +kernel
theorem dL_law_1060 : decode cL_law 1060 = .ok (.iaload, 1) := by decide +kernel
theorem dL_law_1061 : decode cL_law 1061 = .ok (.invokevirtual 132, 3) := by decide +kernel
theorem dL_law_1064 : decode cL_law 1064 = .ok (.aload_n 2, 1) := by decide +kernel
theorem dL_law_1065 : decode cL_law 1065 = .ok (.aload_n 0, 1) := by decide +kernel
theorem dL_law_1066 : decode cL_law 1066 = .ok (.iload_n 3, 1) := by decide +kernel
theorem dL_law_1067 : decode cL_law 1067 = .ok (.iconst 1, 1) := by decide +kernel
theorem dL_law_1068 : decode cL_law 1068 = .ok (.iadd, 1) := by decide +kernel
theorem dL_law_1069 : decode cL_law 1069 = .ok (.iaload, 1) := by decide +kernel
theorem dL_law_1070 : decode cL_law 1070 = .ok (.invokevirtual 135, 3) := by decide +kernel
theorem dL_law_1073 : decode cL_law 1073 = .ok (.if_icmp .eq 28, 3) := by decide +kernel
theorem dL_law_1076 : decode cL_law 1076 = .ok (.iconst 0, 1) := by decide +kernel
theorem dL_law_1077 : decode cL_law 1077 = .ok (.ireturn, 1) := by decide +kernel
theorem dL_law_1078 : decode cL_law 1078 = .ok (.aload_n 1, 1) := by decide +kernel
theorem dL_law_1079 : decode cL_law 1079 = .ok (.aload_n 0, 1) := by decide +kernel
theorem dL_law_1080 : decode cL_law 1080 = .ok (.iload_n 3, 1) := by decide +kernel
theorem dL_law_1081 : decode cL_law 1081 = .ok (.iconst 1, 1) := by decide +kernel
theorem dL_law_1082 : decode cL_law 1082 = .ok (.iadd, 1) := by decide +kernel
theorem dL_law_1083 : decode cL_law 1083 = .ok (.iaload, 1) := by decide +kernel
theorem dL_law_1084 : decode cL_law 1084 = .ok (.invokevirtual 136, 3) := by decide +kernel
theorem dL_law_1087 : decode cL_law 1087 = .ok (.aload_n 2, 1) := by decide +kernel
theorem dL_law_1088 : decode cL_law 1088 = .ok (.aload_n 0, 1) := by decide +kernel
theorem dL_law_1089 : decode cL_law 1089 = .ok (.iload_n 3, 1) := by decide +kernel
theorem dL_law_1090 : decode cL_law 1090 = .ok (.iconst 1, 1) := by decide +kernel
theorem dL_law_1091 : decode cL_law 1091 = .ok (.iadd, 1) := by decide +kernel
theorem dL_law_1092 : decode cL_law 1092 = .ok (.iaload, 1) := by decide +kernel
theorem dL_law_1093 : decode cL_law 1093 = .ok (.invokevirtual 139, 3) := by decide +kernel
theorem dL_law_1096 : decode cL_law 1096 = .ok (.if_icmp .eq 5, 3) := by decide +kernel
theorem dL_law_1099 : decode cL_law 1099 = .ok (.iconst 0, 1) := by decide +kernel
theorem dL_law_1100 : decode cL_law 1100 = .ok (.ireturn, 1) := by decide +kernel
theorem dL_law_1101 : decode cL_law 1101 = .ok (.iinc 3 5, 3) := by decide +kernel
theorem dL_law_1104 : decode cL_law 1104 = .ok (.goto (-1086), 3) := by decide +kernel
theorem dL_law_1107 : decode cL_law 1107 = .ok (.iconst 1, 1) := by decide +kernel
theorem dL_law_1108 : decode cL_law 1108 = .ok (.ireturn, 1) := by decide +kernel
end
section

-- ===== a world of a fixed shape: objects by numbers, their ints and longs by object and place =====
abbrev qMem : Type := (Nat → Nat → Int32) × (Nat → Nat → Int64)
abbrev qShp : Type := (Nat × List (Option Nat)) ⊕ (Nat × Nat × Nat)
abbrev qWT : Type := Launch × va_G × (Nat → Nat) × (Nat → ClassId)
def q_l (w : qWT) : Launch := w.1
def q_D (w : qWT) : va_G := w.2.1
def q_a (w : qWT) : Nat → Nat := w.2.2.1
def q_k (w : qWT) : Nat → ClassId := w.2.2.2
-- a method: name, bytes, locals, answer, frames and words of locals below it
abbrev qMT : Type := MethodName × ByteArray × Nat × Option FieldType × Nat × Nat
def m_y (t : qMT) : MethodName := t.1
def m_b (t : qMT) : ByteArray := t.2.1
def m_n (t : qMT) : Nat := t.2.2.1
def m_r (t : qMT) : Option FieldType := t.2.2.2.1
def m_rm (t : qMT) : Room := { frames := t.2.2.2.2.1, cells := 0, slots := 0, locals := t.2.2.2.2.2 }
def qshX (o : Nat) : qShp := (bif Nat.blt o 50 then (bif Nat.blt o 25 then (bif Nat.blt o 12 then (bif Nat.blt o 6 then (bif Nat.blt o 3 then (bif Nat.blt o 1 then .inl (7, [some 1, some 14, some 25, some 30, some 36, some 90, some 96]) else (bif Nat.blt o 2 then .inl (4, [some 2, none, some 3]) else .inr (200, 1, 0))) else (bif Nat.blt o 4 then .inl (3, [none, none, some 4, some 5, some 6, none, some 7, none]) else (bif Nat.blt o 5 then .inr (6, 0, 0) else .inr (6, 0, 0)))) else (bif Nat.blt o 9 then (bif Nat.blt o 7 then .inr (6, 3, 8) else (bif Nat.blt o 8 then .inr (4, 0, 0) else .inr (16, 0, 0))) else (bif Nat.blt o 10 then .inr (16, 0, 0) else (bif Nat.blt o 11 then .inr (16, 0, 0) else .inr (16, 0, 0))))) else (bif Nat.blt o 18 then (bif Nat.blt o 15 then (bif Nat.blt o 13 then .inr (16, 0, 0) else (bif Nat.blt o 14 then .inr (16, 0, 0) else .inl (3, [none, none, some 15, some 16, some 17, none, some 18, none]))) else (bif Nat.blt o 16 then .inr (6, 0, 0) else (bif Nat.blt o 17 then .inr (6, 0, 0) else .inr (6, 3, 19)))) else (bif Nat.blt o 21 then (bif Nat.blt o 19 then .inr (4, 0, 0) else (bif Nat.blt o 20 then .inr (16, 0, 0) else .inr (16, 0, 0))) else (bif Nat.blt o 23 then (bif Nat.blt o 22 then .inr (16, 0, 0) else .inr (16, 0, 0)) else (bif Nat.blt o 24 then .inr (16, 0, 0) else .inr (16, 0, 0)))))) else (bif Nat.blt o 37 then (bif Nat.blt o 31 then (bif Nat.blt o 28 then (bif Nat.blt o 26 then .inl (6, [none, some 26, some 27, some 28, some 29]) else (bif Nat.blt o 27 then .inr (16, 0, 0) else .inr (16, 0, 0))) else (bif Nat.blt o 29 then .inr (17, 2, 0) else (bif Nat.blt o 30 then .inr (17, 2, 0) else .inl (5, [some 25, some 31, some 32, some 33, some 34, some 35])))) else (bif Nat.blt o 34 then (bif Nat.blt o 32 then .inr (17, 2, 0) else (bif Nat.blt o 33 then .inr (17, 0, 0) else .inr (17, 0, 0))) else (bif Nat.blt o 35 then .inr (17, 2, 0) else (bif Nat.blt o 36 then .inr (18, 0, 0) else .inl (0, [some 14, some 25, some 30, none, none, some 37, some 38, some 39, some 40, some 41, some 42, none, some 43]))))) else (bif Nat.blt o 43 then (bif Nat.blt o 40 then (bif Nat.blt o 38 then .inr (15, 0, 0) else (bif Nat.blt o 39 then .inr (15, 0, 0) else .inr (15, 3, 44))) else (bif Nat.blt o 41 then .inr (15, 4, 59) else (bif Nat.blt o 42 then .inr (6, 3, 74) else .inr (6, 3, 80)))) else (bif Nat.blt o 46 then (bif Nat.blt o 44 then .inr (4, 3, 86) else (bif Nat.blt o 45 then .inr (16, 0, 0) else .inr (16, 0, 0))) else (bif Nat.blt o 48 then (bif Nat.blt o 47 then .inr (16, 0, 0) else .inr (16, 0, 0)) else (bif Nat.blt o 49 then .inr (16, 0, 0) else .inr (16, 0, 0))))))) else (bif Nat.blt o 75 then (bif Nat.blt o 62 then (bif Nat.blt o 56 then (bif Nat.blt o 53 then (bif Nat.blt o 51 then .inr (16, 0, 0) else (bif Nat.blt o 52 then .inr (16, 0, 0) else .inr (16, 0, 0))) else (bif Nat.blt o 54 then .inr (16, 0, 0) else (bif Nat.blt o 55 then .inr (16, 0, 0) else .inr (16, 0, 0)))) else (bif Nat.blt o 59 then (bif Nat.blt o 57 then .inr (16, 0, 0) else (bif Nat.blt o 58 then .inr (16, 0, 0) else .inr (16, 0, 0))) else (bif Nat.blt o 60 then .inr (16, 2, 0) else (bif Nat.blt o 61 then .inr (16, 2, 0) else .inr (16, 2, 0))))) else (bif Nat.blt o 68 then (bif Nat.blt o 65 then (bif Nat.blt o 63 then .inr (16, 2, 0) else (bif Nat.blt o 64 then .inr (16, 2, 0) else .inr (16, 2, 0))) else (bif Nat.blt o 66 then .inr (16, 2, 0) else (bif Nat.blt o 67 then .inr (16, 2, 0) else .inr (16, 2, 0)))) else (bif Nat.blt o 71 then (bif Nat.blt o 69 then .inr (16, 2, 0) else (bif Nat.blt o 70 then .inr (16, 2, 0) else .inr (16, 2, 0))) else (bif Nat.blt o 73 then (bif Nat.blt o 72 then .inr (16, 2, 0) else .inr (16, 2, 0)) else (bif Nat.blt o 74 then .inr (16, 2, 0) else .inr (16, 0, 0)))))) else (bif Nat.blt o 88 then (bif Nat.blt o 81 then (bif Nat.blt o 78 then (bif Nat.blt o 76 then .inr (16, 0, 0) else (bif Nat.blt o 77 then .inr (16, 0, 0) else .inr (16, 0, 0))) else (bif Nat.blt o 79 then .inr (16, 0, 0) else (bif Nat.blt o 80 then .inr (16, 0, 0) else .inr (16, 0, 0)))) else (bif Nat.blt o 84 then (bif Nat.blt o 82 then .inr (16, 0, 0) else (bif Nat.blt o 83 then .inr (16, 0, 0) else .inr (16, 0, 0))) else (bif Nat.blt o 86 then (bif Nat.blt o 85 then .inr (16, 0, 0) else .inr (16, 0, 0)) else (bif Nat.blt o 87 then .inr (96, 0, 0) else .inr (96, 0, 0))))) else (bif Nat.blt o 94 then (bif Nat.blt o 91 then (bif Nat.blt o 89 then .inr (96, 0, 0) else (bif Nat.blt o 90 then .inr (96, 0, 0) else .inl (1, [some 91, none, none]))) else (bif Nat.blt o 92 then .inr (4, 3, 92) else (bif Nat.blt o 93 then .inr (8, 0, 0) else .inr (8, 0, 0)))) else (bif Nat.blt o 97 then (bif Nat.blt o 95 then .inr (8, 0, 0) else (bif Nat.blt o 96 then .inr (8, 0, 0) else .inl (2, [some 97, none]))) else (bif Nat.blt o 99 then (bif Nat.blt o 98 then .inr (3, 3, 98) else .inr (10, 0, 0)) else (bif Nat.blt o 100 then .inr (10, 0, 0) else .inr (10, 0, 0))))))))
def qshM (o : Nat) : qShp := (bif Nat.blt o 10 then (bif Nat.blt o 5 then (bif Nat.blt o 2 then (bif Nat.blt o 1 then .inl (8, [none, some 1, none, none, some 2, some 3, some 4, none, none, some 5, some 6, some 7, some 8, none, some 9, none, none, some 10, some 11, some 12, none, some 13, none, some 14, some 15, none, some 16, some 17, some 18, some 19, none]) else .inr (200, 0, 0)) else (bif Nat.blt o 3 then .inr (6, 0, 0) else (bif Nat.blt o 4 then .inr (6, 0, 0) else .inr (102, 0, 0)))) else (bif Nat.blt o 7 then (bif Nat.blt o 6 then .inr (6, 0, 0) else .inr (6, 0, 0)) else (bif Nat.blt o 8 then .inr (102, 0, 0) else (bif Nat.blt o 9 then .inr (816, 0, 0) else .inr (30, 0, 0))))) else (bif Nat.blt o 15 then (bif Nat.blt o 12 then (bif Nat.blt o 11 then .inr (16, 2, 0) else .inr (16, 0, 0)) else (bif Nat.blt o 13 then .inr (272, 2, 0) else (bif Nat.blt o 14 then .inr (16, 0, 0) else .inr (36, 0, 0)))) else (bif Nat.blt o 17 then (bif Nat.blt o 16 then .inr (36, 0, 0) else .inr (96, 0, 0)) else (bif Nat.blt o 18 then .inr (96, 0, 0) else (bif Nat.blt o 19 then .inr (96, 0, 0) else .inr (96, 0, 0))))))
def qsh (g o : Nat) : qShp := match g with
  | 0 => qshX o
  | _ => qshM o
def qN (g : Nat) : Nat := match g with
  | 0 => 101
  | _ => 20
theorem sh_val3 {j : Nat} (h : j < 6) : qsh 0 (8 + j) = .inr (16, 0, 0) := (show ∀ j : Fin 6, qsh 0 (8 + j.val) = .inr (16, 0, 0) by decide +kernel) ⟨j, h⟩
theorem sh_val14 {j : Nat} (h : j < 6) : qsh 0 (19 + j) = .inr (16, 0, 0) := (show ∀ j : Fin 6, qsh 0 (19 + j.val) = .inr (16, 0, 0) by decide +kernel) ⟨j, h⟩
theorem sh_opn {j : Nat} (h : j < 15) : qsh 0 (44 + j) = .inr (16, 0, 0) := (show ∀ j : Fin 15, qsh 0 (44 + j.val) = .inr (16, 0, 0) by decide +kernel) ⟨j, h⟩
theorem sh_shf {j : Nat} (h : j < 15) : qsh 0 (59 + j) = .inr (16, 2, 0) := (show ∀ j : Fin 15, qsh 0 (59 + j.val) = .inr (16, 2, 0) by decide +kernel) ⟨j, h⟩
theorem sh_cas {j : Nat} (h : j < 6) : qsh 0 (74 + j) = .inr (16, 0, 0) := (show ∀ j : Fin 6, qsh 0 (74 + j.val) = .inr (16, 0, 0) by decide +kernel) ⟨j, h⟩
theorem sh_lef {j : Nat} (h : j < 6) : qsh 0 (80 + j) = .inr (16, 0, 0) := (show ∀ j : Fin 6, qsh 0 (80 + j.val) = .inr (16, 0, 0) by decide +kernel) ⟨j, h⟩
theorem sh_fnd {j : Nat} (h : j < 4) : qsh 0 (86 + j) = .inr (96, 0, 0) := (show ∀ j : Fin 4, qsh 0 (86 + j.val) = .inr (96, 0, 0) by decide +kernel) ⟨j, h⟩
theorem sh_prt {j : Nat} (h : j < 4) : qsh 0 (92 + j) = .inr (8, 0, 0) := (show ∀ j : Fin 4, qsh 0 (92 + j.val) = .inr (8, 0, 0) by decide +kernel) ⟨j, h⟩
theorem sh_col {j : Nat} (h : j < 3) : qsh 0 (98 + j) = .inr (10, 0, 0) := (show ∀ j : Fin 3, qsh 0 (98 + j.val) = .inr (10, 0, 0) by decide +kernel) ⟨j, h⟩

def qtys (w : qWT) : List (ClassId × FieldType) := [(q_k w 0, .int), (q_k w 1, .char), (q_k w 2, .long), (q_k w 3, .array .int), (q_k w 4, .array .long)]
def qfl (w : qWT) (M : qMem) (o : Nat) : Nat → List (Option Nat) → List Value
  | _, [] => []
  | k, none :: t => .int (M.1 o k) :: qfl w M o (k + 1) t
  | k, some r :: t => .ref (q_a w r) :: qfl w M o (k + 1) t
def qcell (w : qWT) (M : qMem) (o : Nat) : qShp → va_E
  | .inl (ci, fl) => .inr (ci, qfl w M o 0 fl)
  | .inr (n, 0, _) => .inl (q_k w 0, n, .inl (M.1 o))
  | .inr (n, 1, _) => .inl (q_k w 1, n, .inl (M.1 o))
  | .inr (n, 2, _) => .inl (q_k w 2, n, .inr (.inl (M.2 o)))
  | .inr (n, 3, b) => .inl (q_k w 3, n, .inr (.inr (.inr (.inr (fun j => some (q_a w (b + j)))))))
  | .inr (n, _, b) => .inl (q_k w 4, n, .inr (.inr (.inr (.inr (fun j => some (q_a w (b + j)))))))
def qws (g : Nat) (w : qWT) (M : qMem) : va_W := (List.range (qN g)).map (fun o => (q_a w o, qcell w M o (qsh g o)))
theorem qws_at {g : Nat} {w : qWT} {M : qMem} {o : Nat} (h : o < qN g) : (qws g w M)[o]? = some (q_a w o, qcell w M o (qsh g o)) := by
  unfold qws
  rw [List.getElem?_map, List.getElem?_range h]; rfl
theorem qws_len {g : Nat} {w : qWT} {M : qMem} : (qws g w M).length = qN g := by simp [qws]
def qIs (M : qMem) (o k : Nat) (x : Int32) : qMem := (fun a j => if a = o ∧ j = k then x else M.1 a j, M.2)
def qLs (M : qMem) (o k : Nat) (x : Int64) : qMem := (M.1, fun a j => if a = o ∧ j = k then x else M.2 a j)
theorem qIs_eq (M : qMem) (o k : Nat) (x : Int32) : (qIs M o k x).1 o k = x := by simp [qIs]
theorem qIs_1 (M : qMem) (o k a j : Nat) (x : Int32) : (qIs M o k x).1 a j = if a = o ∧ j = k then x else M.1 a j := rfl
theorem qIs_2 (M : qMem) (o k : Nat) (x : Int32) : (qIs M o k x).2 = M.2 := rfl
theorem qLs_1 (M : qMem) (o k : Nat) (x : Int64) : (qLs M o k x).1 = M.1 := rfl
theorem qLs_2 (M : qMem) (o k a j : Nat) (x : Int64) : (qLs M o k x).2 a j = if a = o ∧ j = k then x else M.2 a j := rfl
theorem qLs_eq (M : qMem) (o k : Nat) (x : Int64) : (qLs M o k x).2 o k = x := by simp [qLs]
theorem qIs_no {M : qMem} {o k a : Nat} {x : Int32} (h : a ≠ o) : (qIs M o k x).1 a = M.1 a := by
  funext j; simp [qIs, h]
theorem qIs_nk {M : qMem} {o k a j : Nat} {x : Int32} (h : j ≠ k) : (qIs M o k x).1 a j = M.1 a j := by simp [qIs, h]
theorem qLs_no {M : qMem} {o k a : Nat} {x : Int64} (h : a ≠ o) : (qLs M o k x).2 a = M.2 a := by
  funext j; simp [qLs, h]
theorem qLs_nk {M : qMem} {o k a j : Nat} {x : Int64} (h : j ≠ k) : (qLs M o k x).2 a j = M.2 a j := by simp [qLs, h]
theorem qIs_u (M : qMem) (o k : Nat) (x : Int32) : (qIs M o k x).1 o = upd (M.1 o) k x := by
  funext j; simp [qIs, upd]
theorem qLs_u (M : qMem) (o k : Nat) (x : Int64) : (qLs M o k x).2 o = vp_updL (M.2 o) k x := by
  funext j; simp [qLs, vp_updL]
theorem qfl_cong {w : qWT} {M N : qMem} {o : Nat} (h : M.1 o = N.1 o) : ∀ (fl : List (Option Nat)) (k : Nat), qfl w M o k fl = qfl w N o k fl
  | [], _ => rfl
  | none :: t, k => by simp only [qfl, h, qfl_cong h t]
  | some _ :: t, k => by simp only [qfl, qfl_cong h t]
theorem qcell_cong {w : qWT} {M N : qMem} {o : Nat} (h1 : M.1 o = N.1 o) (h2 : M.2 o = N.2 o) (s : qShp) : qcell w M o s = qcell w N o s := by
  rcases s with ⟨ci, fl⟩ | ⟨n, k, b⟩
  · simp only [qcell, qfl_cong h1]
  · match k with
    | 0 | 1 | 2 | 3 | (k + 4) => simp only [qcell, h1, h2]
theorem qws_set {g : Nat} {w : qWT} {M N : qMem} {o : Nat} {e : va_E} (h : o < qN g) (he : qcell w N o (qsh g o) = e) (h1 : ∀ a, a ≠ o → M.1 a = N.1 a) (h2 : ∀ a, a ≠ o → M.2 a = N.2 a) : (qws g w M).set o (q_a w o, e) = qws g w N := by
  apply List.ext_getElem?
  intro k
  by_cases hk : k = o
  · subst hk
    rw [List.getElem?_set_self (by rw [qws_len]; exact h), qws_at h, he]
  · rw [List.getElem?_set_ne (Ne.symm hk)]
    by_cases hl : k < qN g
    · rw [qws_at hl, qws_at hl, qcell_cong (h1 k hk) (h2 k hk)]
    · rw [List.getElem?_eq_none (by rw [qws_len]; omega), List.getElem?_eq_none (by rw [qws_len]; omega)]
def qfV (M : qMem) (o k : Nat) : Option Nat → Value
  | none => .int (M.1 o k)
  | some r => .ref r
theorem qfl_get {w : qWT} {M : qMem} {o : Nat} : ∀ {fl : List (Option Nat)} {k j : Nat} {f : Option Nat}, fl[j]? = some f → (qfl w M o k fl)[j]? = some (match f with | none => .int (M.1 o (k + j)) | some r => .ref (q_a w r))
  | none :: t, k, 0, f, h => by cases h; rfl
  | some r :: t, k, 0, f, h => by cases h; rfl
  | none :: t, k, j + 1, f, h => by
    rw [qfl, List.getElem?_cons_succ, qfl_get (k := k + 1) (by simpa using h)]
    rw [show k + 1 + j = k + (j + 1) by omega]
  | some r :: t, k, j + 1, f, h => by
    rw [qfl, List.getElem?_cons_succ, qfl_get (k := k + 1) (by simpa using h)]
    rw [show k + 1 + j = k + (j + 1) by omega]
theorem qfl_len {w : qWT} {M : qMem} {o : Nat} : ∀ (fl : List (Option Nat)) (k : Nat), (qfl w M o k fl).length = fl.length
  | [], _ => rfl
  | none :: t, k => by simp only [qfl, List.length_cons, qfl_len t]
  | some _ :: t, k => by simp only [qfl, List.length_cons, qfl_len t]
theorem qfl_set {w : qWT} {M : qMem} {o j : Nat} {x : Int32} {fl : List (Option Nat)} (h : fl[j]? = some none) : (qfl w M o 0 fl).set j (.int x) = qfl w (qIs M o j x) o 0 fl := by
  have hl : j < fl.length := (List.getElem?_eq_some_iff.mp h).1
  apply List.ext_getElem?
  intro k
  by_cases hk : k = j
  · subst hk
    rw [List.getElem?_set_self (by rw [qfl_len]; exact hl), qfl_get h]
    simp [qIs]
  · rw [List.getElem?_set_ne (Ne.symm hk)]
    cases hf : fl[k]? with
    | none =>
      have := List.getElem?_eq_none_iff.mp hf
      rw [List.getElem?_eq_none (by rw [qfl_len]; exact this), List.getElem?_eq_none (by rw [qfl_len]; exact this)]
    | some f =>
      rw [qfl_get hf, qfl_get hf]
      cases f with
      | none => simp [qIs, hk]
      | some r => rfl
-- what the tables give to all methods
def qW : List Cond := lw_tbl.filter goodWord
theorem qW_t {i : Nat} {w : Cond} (h : tables_1[i]? = some w) (hg : goodWord w = true) : w ∈ qW := List.mem_filter.mpr ⟨List.mem_append_right _ (List.mem_of_getElem? h), hg⟩
theorem qW_p {i : Nat} {w : Cond} (h : (k2_sels lw_privs)[i]? = some w) (hg : goodWord w = true) : w ∈ qW := List.mem_filter.mpr ⟨List.mem_append_left _ (List.mem_of_getElem? h), hg⟩
theorem qW_good : GoodIn qW qW := fun w h => ⟨h, good_of_word (List.mem_filter.mp h).2⟩
def q_n1 : Cond := .methodLinkNest "ShiftMender$Script" 75 yX7_isRule "ShiftMender"
def q_n2 : Cond := .methodLinkNest "ShiftMender$Culprits" 123 yX7_roundedMean "ShiftMender"
def q_n3 : Cond := .methodLinkNest "ShiftMender$Records" 51 yX7_isValue "ShiftMender"
def q_n4 : Cond := .fieldLinkNest "ShiftMender$Records" 36 "ShiftMender" "USUAL_RULE" "[I" "ShiftMender"
def qNest (U : State) : Prop := va_Nw q_n1 U ∧ va_Nw q_n2 U ∧ va_Nw q_n3 U ∧ va_Nw q_n4 U
def qtab : Nat → Nat → Int32
  | 0, 3 => 0
  | 0, _ => 1
  | 1, 0 => 4
  | 1, 3 => 2
  | 1, _ => 5
  | _, 1 => 3
  | _, 3 => 0
  | _, _ => 2
def qtn : Nat → String
  | 0 => "LEAST_RULE"
  | 1 => "GREATEST_RULE"
  | _ => "USUAL_RULE"
def qStat (w : qWT) (A : Nat → Prop) (U : State) (H : Heap) : Prop := ∀ k, k < 3 → va_Z "ShiftMender" (qtn k) "[I" (.ref (q_a w (1000 + k))) A U H ∧ va_T .int (q_a w (1000 + k)) 4 (fun j => .int (qtab k j)) A U H
def qA (g : Nat) (w : qWT) (sz : Nat) : Nat → Prop := fun q => (∃ o, o < qN g ∧ q = q_a w o) ∨ sz ≤ q
theorem qA_in {g : Nat} {w : qWT} {sz o : Nat} (h : o < qN g) : qA g w sz (q_a w o) := Or.inl ⟨o, h, rfl⟩
theorem qA_mono {g : Nat} {w : qWT} {s1 s2 : Nat} (h : s1 ≤ s2) {q : Nat} (hq : qA g w s2 q) : qA g w s1 q := hq.elim Or.inl (fun z => Or.inr (Nat.le_trans h z))
theorem qNest_moved {u U : State} (hW : u.WarmedH U.vm) (h : qNest u) : qNest U := ⟨va_Nw.warmM hW h.1, va_Nw.warmM hW h.2.1, va_Nw.warmM hW h.2.2.1, va_Nw.warmF hW h.2.2.2⟩
theorem qNest_same {u U : State} (hv : u.vm = U.vm) (h : qNest u) : qNest U := ⟨va_Nw.same rfl hv h.1, va_Nw.same rfl hv h.2.1, va_Nw.same rfl hv h.2.2.1, va_Nw.same rfl hv h.2.2.2⟩
theorem qStat_moved {w : qWT} {A : Nat → Prop} {u U : State} {H : Heap} (hvm : u.vm.Alike U.vm) (h : qStat w A u H) : qStat w A U H := fun k hk => ⟨va_Z.moved hvm (h k hk).1, va_T.moved hvm (h k hk).2⟩
theorem qStat_kept {w : qWT} {A : Nat → Prop} {U : State} {H H1 : Heap} (h : qStat w A U H) (hq : ∀ a : Nat, a < H.size → ¬ A a → H1[a]? = H[a]?) : qStat w A U H1 := fun k hk => ⟨va_Z.kept (h k hk).1 hq, va_T.kept (h k hk).2 hq⟩
theorem qStat_narrow {w : qWT} {A B : Nat → Prop} {U : State} {H : Heap} (h : qStat w A U H) (hAB : ∀ q, B q → A q) : qStat w B U H := fun k hk => ⟨va_Z.narrow (h k hk).1 hAB, va_T.narrow (h k hk).2 hAB⟩
-- abstract values: a reference is an object's number
def qcv (w : qWT) : Value → Value
  | .ref i => .ref (q_a w i)
  | v => v
theorem qcv_cat (w : qWT) (v : Value) : (qcv w v).category = v.category := by cases v <;> rfl
def qcL (w : qWT) (L : List (Nat × Value)) : List (Nat × Value) := L.map (fun q => (q.1, qcv w q.2))
def qget : List (Nat × Value) → Nat → Option Value
  | [], _ => none
  | (i, v) :: t, k => match Nat.beq i k with
    | true => some v
    | false => qget t k
theorem qget_mem : ∀ {L : List (Nat × Value)} {k : Nat} {v : Value}, qget L k = some v → (k, v) ∈ L
  | (i, x) :: t, k, v, h => by
    unfold qget at h
    cases hb : Nat.beq i k with
    | true =>
      rw [hb] at h
      have e := Nat.eq_of_beq_eq_true hb
      subst e
      cases h
      exact List.mem_cons_self
    | false =>
      rw [hb] at h
      exact List.mem_cons_of_mem _ (qget_mem h)
theorem qget_at {w : qWT} {lsA : Array Slot} {n : Nat} {L : List (Nat × Value)} (h : lv_has lsA n (qcL w L)) {k : Nat} {v : Value} (hk : qget L k = some v) : lsA[k]? = some (.val (qcv w v)) := h.2.2 (k, qcv w v) (List.mem_map.mpr ⟨(k, v), qget_mem hk, rfl⟩)
def qput (L : List (Nat × Value)) (i : Nat) (v : Value) : List (Nat × Value) := (i, v) :: L.filter (fun q => !(q.1 == i) && !(q.1 + 1 == i && q.2.category == 2))
def qput2 (L : List (Nat × Value)) (i : Nat) (v : Value) : List (Nat × Value) := (i, v) :: L.filter (fun q => !(q.1 == i) && (!(q.1 == i + 1) && !(q.1 + 1 == i && q.2.category == 2)))
def qsub (L : List (Nat × Value)) (L' : List (Nat × Value)) : Prop := ∀ q ∈ L', qget L q.1 = some q.2
theorem qs0 {L : List (Nat × Value)} : qsub L [] := fun _ h => absurd h List.not_mem_nil
theorem qs1 {L T : List (Nat × Value)} {i : Nat} {v : Value} (h : qget L i = some v) (t : qsub L T) : qsub L ((i, v) :: T) := fun q hq => (List.mem_cons.mp hq).elim (fun e => by rw [e]; exact h) (t q)
theorem qsub_has {w : qWT} {lsA : Array Slot} {n : Nat} {L L' : List (Nat × Value)} (h : lv_has lsA n (qcL w L)) (hs : qsub L L') : lv_has lsA n (qcL w L') := by
  refine ⟨h.1, h.2.1, fun q hq => ?_⟩
  obtain ⟨z, hz, rfl⟩ := List.mem_map.mp hq
  exact qget_at h (hs z hz)
theorem qcL_put {w : qWT} {L : List (Nat × Value)} {i : Nat} {v : Value} : (i, qcv w v) :: (qcL w L).filter (fun q => !(q.1 == i) && !(q.1 + 1 == i && q.2.category == 2)) = qcL w (qput L i v) := by
  unfold qcL qput
  rw [List.map_cons, List.filter_map]
  congr 3
  funext q
  simp [Function.comp, qcv_cat]
theorem qcL_put2 {w : qWT} {L : List (Nat × Value)} {i : Nat} {v : Value} : (i, qcv w v) :: (qcL w L).filter (fun q => !(q.1 == i) && (!(q.1 == i + 1) && !(q.1 + 1 == i && q.2.category == 2))) = qcL w (qput2 L i v) := by
  unfold qcL qput2
  rw [List.map_cons, List.filter_map]
  congr 3
  funext q
  simp [Function.comp, qcv_cat]
theorem q_args {w : qWT} : ∀ (vs : List Value) (i : Nat), lv_args i (vs.map (qcv w)) = qcL w (lv_args i vs)
  | [], i => rfl
  | v :: vs, i => by
    simp only [List.map_cons, lv_args, qcL, qcv_cat]
    congr 1
    exact q_args vs _
theorem q_sl {w : qWT} (vs : List Value) : (lg_sl (vs.map (qcv w))).length = (lg_sl vs).length := by
  unfold lg_sl
  induction vs with
  | nil => rfl
  | cons v t ih =>
    simp only [List.map_cons, List.flatMap_cons, List.length_append, ih, qcv_cat]
    split <;> rfl
-- ===== the walk's judgement, a method's contract =====
def qCtx (g : Nat) (w : qWT) (mt : qMT) (sz : Nat) (p : Program) (s : State) (m : MethodId) (args : Array Value) (meth : Method) (c : Code) : Prop :=
  p.tables.exec = Jvm.exec ∧ c.code = m_b mt ∧ c.maxLocals = m_n mt ∧ meth.sig.returnType = m_r mt ∧ meth.locks = false ∧ s.vm.findClass (m_y mt).cls = some m.cls ∧ (∀ z ∈ qW, z.before args s = true) ∧ s.heap.size = sz ∧ va_K (q_D w) vwCl (qtys w) s ∧ qNest s ∧ qStat w (qA g w sz) s s.heap
abbrev qQ : Type := Option Value → qMem → Prop
def qPost (g : Nat) (w : qWT) (sz : Nat) (Q : qQ) : Array Value → State → Outcome → State → Prop := fun _ st oc t =>
  (∃ (v : Option Value) (M' : qMem), oc = .returned (v.map (qcv w)) ∧ Q v M' ∧ va_P (q_D w) vwCl (qws g w M') t.heap ∧ va_D (qA g w sz) (qws g w M')) ∧ va_F (qA g w sz) st t
def qPre (g : Nat) (w : qWT) (sz : Nat) (M : qMem) (U : State) : Prop :=
  U.heap.size = sz ∧ va_P (q_D w) vwCl (qws g w M) U.heap ∧ va_K (q_D w) vwCl (qtys w) U ∧ va_D (fun _ => True) (qws g w M) ∧ qNest U ∧ qStat w (qA g w sz) U U.heap
def qSem (g : Nat) (mt : qMT) (av : List Value) (M : qMem) (Q : qQ) : Prop :=
  ∀ (w : qWT) (sz : Nat), Met (q_l w) (m_y mt) (Cond.code (m_y mt) (m_b mt) (m_n mt) (m_r mt) :: qW) (m_rm mt) (va_Pc (av.map (qcv w)) (qPre g w sz M)) (qPost g w sz Q) 0 0 (qA g w sz)
def qRW (g : Nat) (w : qWT) (mt : qMT) (pc : Nat) (L : List (Nat × Value)) (st : List Value) (M : qMem) (Q : qQ) : Prop :=
  ∀ (p : Program) (e : Env) (s : State) (m : MethodId) (args : Array Value) (below : List Frame) (meth : Method) (c : Code) (sz : Nat) (H : Heap) (locs : List Loc) (lsA : Array Slot),
    qCtx g w mt sz p s m args meth c → va_P (q_D w) vwCl (qws g w M) H → va_D (qA g w sz) (qws g w M) → va_S (qA g w sz) s.heap H locs → lv_has lsA (m_n mt) (qcL w L) →
    W p (q_l w) e (m_rm mt) s m args below meth c H locs 0 0 (MQ below (qPost g w sz Q) args s 0 0 (qA g w sz)) (F0 m pc lsA (st.map (qcv w)))
theorem qD_self {g : Nat} {w : qWT} {sz : Nat} {M : qMem} (h : va_D (fun _ => True) (qws g w M)) : va_D (qA g w sz) (qws g w M) := ⟨h.1, fun k q hk => by
  have hl : k < qN g := by rw [← qws_len (g := g) (w := w) (M := M)]; exact (List.getElem?_eq_some_iff.mp hk).1
  rw [qws_at hl] at hk
  cases hk
  exact qA_in hl⟩
theorem qD_mem {g : Nat} {w : qWT} {A : Nat → Prop} {M N : qMem} (h : va_D A (qws g w M)) : va_D A (qws g w N) := by
  have key : ∀ (k : Nat) (q : Nat × va_E), (qws g w N)[k]? = some q → (qws g w M)[k]? = some (q.1, qcell w M k (qsh g k)) := fun k q hk => by
    have hl : k < qN g := by rw [← qws_len (g := g) (w := w) (M := N)]; exact (List.getElem?_eq_some_iff.mp hk).1
    rw [qws_at hl] at hk
    cases hk
    exact qws_at hl
  exact ⟨fun i j a b hi hj hab => h.1 i j _ _ (key i a hi) (key j b hj) hab, fun k q hk => (h.2 k (q.1, qcell w M k (qsh g k)) (key k q hk) : A q.1)⟩
theorem qSem.of {g : Nat} {mt : qMT} {av : List Value} {M : qMem} {Q : qQ} (hp : plainName (m_y mt).cls = true) (hn : (lg_sl av).length ≤ m_n mt) (h : ∀ w : qWT, qRW g w mt 0 (lv_args 0 av) [] M Q) : qSem g mt av M Q := by
  intro w sz
  refine Met.ofW (cc := m_b mt) (maxL := m_n mt) (ret := m_r mt) hp rfl ?_
  intro p e s m args below meth c s₁ B hml hv
  obtain ⟨rfl, hsz, hP, hK, hD, hNs, hSt⟩ := hv
  have hts := atoms_spec (ws := Cond.code (m_y mt) (m_b mt) (m_n mt) (m_r mt) :: qW) B.pre
  rw [lg_entry_eq]
  have hl := lv_entry (av.map (qcv w)) (n := m_n mt) (by rw [q_sl]; exact hn)
  rw [q_args] at hl
  exact h w p e s m _ below meth c sz s.heap [] _ ⟨B.exec, B.bytes, hml, B.returns, B.notSynchronized, findClass_of_methodNamed B.named, fun z hz => hts z (List.mem_cons_of_mem _ hz), hsz, hK, hNs, hSt⟩ hP (qD_self hD) va_S.rf hl
theorem qSem.mono {g : Nat} {mt : qMT} {av : List Value} {M : qMem} {Q Q' : qQ} (h : qSem g mt av M Q) (hQ : ∀ v N, Q v N → Q' v N) : qSem g mt av M Q' := by
  intro w sz p e ha hc hk s m args below hf happ hP hK
  obtain ⟨k, o, h1, h2, h3, ⟨⟨v, M', e1, e2, e3⟩, e4⟩, h5⟩ := h w sz p e ha hc hk s m args below hf happ hP hK
  exact ⟨k, o, h1, h2, h3, ⟨⟨v, M', e1, hQ v M' e2, e3⟩, e4⟩, h5⟩
theorem q_fits {g : Nat} {w : qWT} {sz : Nat} {M : qMem} {av : List Value} : FrameBlind (va_Pc (av.map (qcv w)) (qPre g w sz M)) := fun a U gg mk q => by
  obtain ⟨q0, q1, q2, q3, q4, q5, q6⟩ := q
  exact ⟨q0, q1, q2, va_K.moved (u := U) (U := U.calling gg mk a) (Vm.Alike.refl U.vm) q3, q4, qNest_same rfl q5, qStat_moved (u := U) (U := U.calling gg mk a) (Vm.Alike.refl U.vm) q6⟩
section QR
variable {g : Nat} {w : qWT} {mt : qMT} {pc : Nat} {L : List (Nat × Value)} {st : List Value} {M : qMem} {Q : qQ}
theorem R_eq {st' : List Value} {M' : qMem} (hs : st = st') (hM : M = M') (kk : qRW g w mt pc L st' M' Q) : qRW g w mt pc L st M Q := by subst hs; subst hM; exact kk
theorem R_M {M' : qMem} (hM : M = M') (kk : qRW g w mt pc L st M' Q) : qRW g w mt pc L st M Q := by subst hM; exact kk
theorem R_ls {L' : List (Nat × Value)} (hs : qsub L L') (kk : qRW g w mt pc L' st M Q) : qRW g w mt pc L st M Q :=
  fun p e s m args below meth c sz H locs lsA C hP hD hS hL => kk p e s m args below meth c sz H locs lsA C hP hD hS (qsub_has hL hs)
theorem R_top {x y : Int32} (h : x = y) (kk : qRW g w mt pc L (.int y :: st) M Q) : qRW g w mt pc L (.int x :: st) M Q := by subst h; exact kk
theorem R_top2 {x y z : Int32} (h : x = y) (kk : qRW g w mt pc L (.int z :: .int y :: st) M Q) : qRW g w mt pc L (.int z :: .int x :: st) M Q := by subst h; exact kk
theorem R_topL {x y : Int64} (h : x = y) (kk : qRW g w mt pc L (.long y :: st) M Q) : qRW g w mt pc L (.long x :: st) M Q := by subst h; exact kk

theorem R_iload_n {k : Fin 4} {x : Int32} (hd : decode (m_b mt) pc = .ok (.iload_n k, 1)) (hl : qget L (k : Nat) = some (.int x)) (kk : qRW g w mt (pc + 1) L (.int x :: st) M Q) : qRW g w mt pc L st M Q :=
  fun p e s m args below meth c sz H locs lsA C hP hD hS hL => lv_iload_n C.1 C.2.1 hd rfl (qget_at hL hl) (kk p e s m args below meth c sz H locs lsA C hP hD hS hL)
theorem R_iload {i : Nat} {x : Int32} (hd : decode (m_b mt) pc = .ok (.iload i, 2)) (hl : qget L i = some (.int x)) (kk : qRW g w mt (pc + 2) L (.int x :: st) M Q) : qRW g w mt pc L st M Q :=
  fun p e s m args below meth c sz H locs lsA C hP hD hS hL => lv_iload C.1 C.2.1 hd (qget_at hL hl) (kk p e s m args below meth c sz H locs lsA C hP hD hS hL)
theorem R_lload_n {k : Fin 4} {x : Int64} (hd : decode (m_b mt) pc = .ok (.lload_n k, 1)) (hl : qget L (k : Nat) = some (.long x)) (kk : qRW g w mt (pc + 1) L (.long x :: st) M Q) : qRW g w mt pc L st M Q :=
  fun p e s m args below meth c sz H locs lsA C hP hD hS hL => lv_lload_n C.1 C.2.1 hd rfl (qget_at hL hl) (kk p e s m args below meth c sz H locs lsA C hP hD hS hL)
theorem R_lload {i : Nat} {x : Int64} (hd : decode (m_b mt) pc = .ok (.lload i, 2)) (hl : qget L i = some (.long x)) (kk : qRW g w mt (pc + 2) L (.long x :: st) M Q) : qRW g w mt pc L st M Q :=
  fun p e s m args below meth c sz H locs lsA C hP hD hS hL => lv_lload C.1 C.2.1 hd (qget_at hL hl) (kk p e s m args below meth c sz H locs lsA C hP hD hS hL)
theorem R_aload_n {k : Fin 4} {x : Nat} (hd : decode (m_b mt) pc = .ok (.aload_n k, 1)) (hl : qget L (k : Nat) = some (.ref x)) (kk : qRW g w mt (pc + 1) L (.ref x :: st) M Q) : qRW g w mt pc L st M Q :=
  fun p e s m args below meth c sz H locs lsA C hP hD hS hL => lv_aload_n C.1 C.2.1 hd rfl (qget_at hL hl) (kk p e s m args below meth c sz H locs lsA C hP hD hS hL)
theorem R_aload {i : Nat} {x : Nat} (hd : decode (m_b mt) pc = .ok (.aload i, 2)) (hl : qget L i = some (.ref x)) (kk : qRW g w mt (pc + 2) L (.ref x :: st) M Q) : qRW g w mt pc L st M Q :=
  fun p e s m args below meth c sz H locs lsA C hP hD hS hL => lv_aload C.1 C.2.1 hd (qget_at hL hl) (kk p e s m args below meth c sz H locs lsA C hP hD hS hL)
theorem R_istore_n {k : Fin 4} {x : Int32} {L' : List (Nat × Value)} (hd : decode (m_b mt) pc = .ok (.istore_n k, 1)) (hi : (k : Nat) < m_n mt) (hs : qsub (qput L (k : Nat) (.int x)) L') (kk : qRW g w mt (pc + 1) L' st M Q) : qRW g w mt pc L (.int x :: st) M Q :=
  fun p e s m args below meth c sz H locs lsA C hP hD hS hL => lv_istore_n C.1 C.2.1 hd rfl hL hi (qcL_put (v := .int x)) (fun ls' hL' => (kk p e s m args below meth c sz H locs ls' C hP hD hS (qsub_has hL' hs)))
theorem R_istore {i : Nat} {x : Int32} {L' : List (Nat × Value)} (hd : decode (m_b mt) pc = .ok (.istore i, 2)) (hi : i < m_n mt) (hs : qsub (qput L i (.int x)) L') (kk : qRW g w mt (pc + 2) L' st M Q) : qRW g w mt pc L (.int x :: st) M Q :=
  fun p e s m args below meth c sz H locs lsA C hP hD hS hL => lv_istore C.1 C.2.1 hd hL hi (qcL_put (v := .int x)) (fun ls' hL' => (kk p e s m args below meth c sz H locs ls' C hP hD hS (qsub_has hL' hs)))
theorem R_lstore_n {k : Fin 4} {x : Int64} {L' : List (Nat × Value)} (hd : decode (m_b mt) pc = .ok (.lstore_n k, 1)) (hi : (k : Nat) + 1 < m_n mt) (hs : qsub (qput2 L (k : Nat) (.long x)) L') (kk : qRW g w mt (pc + 1) L' st M Q) : qRW g w mt pc L (.long x :: st) M Q :=
  fun p e s m args below meth c sz H locs lsA C hP hD hS hL => lv_lstore_n C.1 C.2.1 hd rfl hL hi (qcL_put2 (v := .long x)) (fun ls' hL' => (kk p e s m args below meth c sz H locs ls' C hP hD hS (qsub_has hL' hs)))
theorem R_lstore {i : Nat} {x : Int64} {L' : List (Nat × Value)} (hd : decode (m_b mt) pc = .ok (.lstore i, 2)) (hi : i + 1 < m_n mt) (hs : qsub (qput2 L i (.long x)) L') (kk : qRW g w mt (pc + 2) L' st M Q) : qRW g w mt pc L (.long x :: st) M Q :=
  fun p e s m args below meth c sz H locs lsA C hP hD hS hL => lv_lstore C.1 C.2.1 hd hL hi (qcL_put2 (v := .long x)) (fun ls' hL' => (kk p e s m args below meth c sz H locs ls' C hP hD hS (qsub_has hL' hs)))
theorem R_iinc {i : Nat} {n : Int} {x v : Int32} {L' : List (Nat × Value)} (hd : decode (m_b mt) pc = .ok (.iinc i n, 3)) (hl : qget L i = some (.int x)) (hv : x + Int32.ofInt n = v) (hi : i < m_n mt) (hs : qsub (qput L i (.int v)) L') (kk : qRW g w mt (pc + 3) L' st M Q) : qRW g w mt pc L st M Q := by
  intro p e s m args below meth c sz H locs lsA C hP hD hS hL
  obtain ⟨k, hk⟩ := List.getElem?_of_mem (qget_mem hl)
  exact lv_iinc (k := k) C.1 C.2.1 hd hL (by unfold qcL; rw [List.getElem?_map, hk]; rfl) hv hi (qcL_put (v := .int v)) (fun ls' hL' => (kk p e s m args below meth c sz H locs ls' C hP hD hS (qsub_has hL' hs)))
theorem R_iconst {n : Int} {v : Int32} (hd : decode (m_b mt) pc = .ok (.iconst n, 1)) (hv : Int32.ofInt n = v) (kk : qRW g w mt (pc + 1) L (.int v :: st) M Q) : qRW g w mt pc L st M Q :=
  fun p e s m args below meth c sz H locs lsA C hP hD hS hL => lv_iconst C.1 C.2.1 hd hv (kk p e s m args below meth c sz H locs lsA C hP hD hS hL)
theorem R_bipush {n : Int} {v : Int32} (hd : decode (m_b mt) pc = .ok (.bipush n, 2)) (hv : (Int8.ofInt n).toInt32 = v) (kk : qRW g w mt (pc + 2) L (.int v :: st) M Q) : qRW g w mt pc L st M Q :=
  fun p e s m args below meth c sz H locs lsA C hP hD hS hL => lv_bipush C.1 C.2.1 hd hv (kk p e s m args below meth c sz H locs lsA C hP hD hS hL)
theorem R_sipush {n : Int} {v : Int32} (hd : decode (m_b mt) pc = .ok (.sipush n, 3)) (hv : (Int16.ofInt n).toInt32 = v) (kk : qRW g w mt (pc + 3) L (.int v :: st) M Q) : qRW g w mt pc L st M Q :=
  fun p e s m args below meth c sz H locs lsA C hP hD hS hL => lv_sipush C.1 C.2.1 hd hv (kk p e s m args below meth c sz H locs lsA C hP hD hS hL)
theorem R_lconst {n : Fin 2} {v : Int64} (hd : decode (m_b mt) pc = .ok (.lconst n, 1)) (hv : Int64.ofNat (n : Nat) = v) (kk : qRW g w mt (pc + 1) L (.long v :: st) M Q) : qRW g w mt pc L st M Q :=
  fun p e s m args below meth c sz H locs lsA C hP hD hS hL => lv_lconst C.1 C.2.1 hd hv (kk p e s m args below meth c sz H locs lsA C hP hD hS hL)
theorem R_ldc {i : Nat} {v : Int32} (hd : decode (m_b mt) pc = .ok (.ldc i, 2)) (hc : Cond.constant (m_y mt).cls i v ∈ qW) (kk : qRW g w mt (pc + 2) L (.int v :: st) M Q) : qRW g w mt pc L st M Q :=
  fun p e s m args below meth c sz H locs lsA C hP hD hS hL => lv_ldc C.1 C.2.1 C.2.2.2.2.2.1 (C.2.2.2.2.2.2.1 _ hc) hd (kk p e s m args below meth c sz H locs lsA C hP hD hS hL)
theorem R_ldc2 {i : Nat} {v : Int64} (hd : decode (m_b mt) pc = .ok (.ldc2_w i, 3)) (hc : Cond.constantLong (m_y mt).cls i v ∈ qW) (kk : qRW g w mt (pc + 3) L (.long v :: st) M Q) : qRW g w mt pc L st M Q :=
  fun p e s m args below meth c sz H locs lsA C hP hD hS hL => lv_ldc2 C.1 C.2.1 C.2.2.2.2.2.1 (C.2.2.2.2.2.2.1 _ hc) hd (kk p e s m args below meth c sz H locs lsA C hP hD hS hL)
theorem R_iadd {x y : Int32} (hd : decode (m_b mt) pc = .ok (.iadd, 1)) (kk : qRW g w mt (pc + 1) L (.int (x + y) :: st) M Q) : qRW g w mt pc L (.int y :: .int x :: st) M Q :=
  fun p e s m args below meth c sz H locs lsA C hP hD hS hL => lv_iadd C.1 C.2.1 hd (kk p e s m args below meth c sz H locs lsA C hP hD hS hL)
theorem R_isub {x y : Int32} (hd : decode (m_b mt) pc = .ok (.isub, 1)) (kk : qRW g w mt (pc + 1) L (.int (x - y) :: st) M Q) : qRW g w mt pc L (.int y :: .int x :: st) M Q :=
  fun p e s m args below meth c sz H locs lsA C hP hD hS hL => lv_isub C.1 C.2.1 hd (kk p e s m args below meth c sz H locs lsA C hP hD hS hL)
theorem R_imul {x y : Int32} (hd : decode (m_b mt) pc = .ok (.imul, 1)) (kk : qRW g w mt (pc + 1) L (.int (x * y) :: st) M Q) : qRW g w mt pc L (.int y :: .int x :: st) M Q :=
  fun p e s m args below meth c sz H locs lsA C hP hD hS hL => lv_imul C.1 C.2.1 hd (kk p e s m args below meth c sz H locs lsA C hP hD hS hL)
theorem R_iand {x y : Int32} (hd : decode (m_b mt) pc = .ok (.iand, 1)) (kk : qRW g w mt (pc + 1) L (.int (x &&& y) :: st) M Q) : qRW g w mt pc L (.int y :: .int x :: st) M Q :=
  fun p e s m args below meth c sz H locs lsA C hP hD hS hL => lv_iand C.1 C.2.1 hd (kk p e s m args below meth c sz H locs lsA C hP hD hS hL)
theorem R_ior {x y : Int32} (hd : decode (m_b mt) pc = .ok (.ior, 1)) (kk : qRW g w mt (pc + 1) L (.int (x ||| y) :: st) M Q) : qRW g w mt pc L (.int y :: .int x :: st) M Q :=
  fun p e s m args below meth c sz H locs lsA C hP hD hS hL => lv_ior C.1 C.2.1 hd (kk p e s m args below meth c sz H locs lsA C hP hD hS hL)
theorem R_ixor {x y : Int32} (hd : decode (m_b mt) pc = .ok (.ixor, 1)) (kk : qRW g w mt (pc + 1) L (.int (x ^^^ y) :: st) M Q) : qRW g w mt pc L (.int y :: .int x :: st) M Q :=
  fun p e s m args below meth c sz H locs lsA C hP hD hS hL => lv_ixor C.1 C.2.1 hd (kk p e s m args below meth c sz H locs lsA C hP hD hS hL)
theorem R_ishl {x y : Int32} (hd : decode (m_b mt) pc = .ok (.ishl, 1)) (kk : qRW g w mt (pc + 1) L (.int (x <<< (y &&& 31)) :: st) M Q) : qRW g w mt pc L (.int y :: .int x :: st) M Q :=
  fun p e s m args below meth c sz H locs lsA C hP hD hS hL => lv_ishl C.1 C.2.1 hd (kk p e s m args below meth c sz H locs lsA C hP hD hS hL)
theorem R_ishr {x y : Int32} (hd : decode (m_b mt) pc = .ok (.ishr, 1)) (kk : qRW g w mt (pc + 1) L (.int (x >>> (y &&& 31)) :: st) M Q) : qRW g w mt pc L (.int y :: .int x :: st) M Q :=
  fun p e s m args below meth c sz H locs lsA C hP hD hS hL => lv_ishr C.1 C.2.1 hd (kk p e s m args below meth c sz H locs lsA C hP hD hS hL)
theorem R_idiv {x y : Int32} (hd : decode (m_b mt) pc = .ok (.idiv, 1)) (hne : ¬ y = 0) (kk : qRW g w mt (pc + 1) L (.int (x / y) :: st) M Q) : qRW g w mt pc L (.int y :: .int x :: st) M Q :=
  fun p e s m args below meth c sz H locs lsA C hP hD hS hL => lv_idiv C.1 C.2.1 hd hne (kk p e s m args below meth c sz H locs lsA C hP hD hS hL)
theorem R_irem {x y : Int32} (hd : decode (m_b mt) pc = .ok (.irem, 1)) (hne : ¬ y = 0) (kk : qRW g w mt (pc + 1) L (.int (x - x / y * y) :: st) M Q) : qRW g w mt pc L (.int y :: .int x :: st) M Q :=
  fun p e s m args below meth c sz H locs lsA C hP hD hS hL => lv_irem C.1 C.2.1 hd hne (kk p e s m args below meth c sz H locs lsA C hP hD hS hL)
theorem R_ladd {x y : Int64} (hd : decode (m_b mt) pc = .ok (.ladd, 1)) (kk : qRW g w mt (pc + 1) L (.long (x + y) :: st) M Q) : qRW g w mt pc L (.long y :: .long x :: st) M Q :=
  fun p e s m args below meth c sz H locs lsA C hP hD hS hL => lv_ladd C.1 C.2.1 hd (kk p e s m args below meth c sz H locs lsA C hP hD hS hL)
theorem R_lsub {x y : Int64} (hd : decode (m_b mt) pc = .ok (.lsub, 1)) (kk : qRW g w mt (pc + 1) L (.long (x - y) :: st) M Q) : qRW g w mt pc L (.long y :: .long x :: st) M Q :=
  fun p e s m args below meth c sz H locs lsA C hP hD hS hL => lv_lsub C.1 C.2.1 hd (kk p e s m args below meth c sz H locs lsA C hP hD hS hL)
theorem R_lmul {x y : Int64} (hd : decode (m_b mt) pc = .ok (.lmul, 1)) (kk : qRW g w mt (pc + 1) L (.long (x * y) :: st) M Q) : qRW g w mt pc L (.long y :: .long x :: st) M Q :=
  fun p e s m args below meth c sz H locs lsA C hP hD hS hL => lv_lmul C.1 C.2.1 hd (kk p e s m args below meth c sz H locs lsA C hP hD hS hL)
theorem R_lxor {x y : Int64} (hd : decode (m_b mt) pc = .ok (.lxor, 1)) (kk : qRW g w mt (pc + 1) L (.long (x ^^^ y) :: st) M Q) : qRW g w mt pc L (.long y :: .long x :: st) M Q :=
  fun p e s m args below meth c sz H locs lsA C hP hD hS hL => lv_lxor C.1 C.2.1 hd (kk p e s m args below meth c sz H locs lsA C hP hD hS hL)
theorem R_ldiv {x y : Int64} (hd : decode (m_b mt) pc = .ok (.ldiv, 1)) (hne : ¬ y = 0) (kk : qRW g w mt (pc + 1) L (.long (x / y) :: st) M Q) : qRW g w mt pc L (.long y :: .long x :: st) M Q :=
  fun p e s m args below meth c sz H locs lsA C hP hD hS hL => lv_ldiv C.1 C.2.1 hd hne (kk p e s m args below meth c sz H locs lsA C hP hD hS hL)
theorem R_lrem {x y : Int64} (hd : decode (m_b mt) pc = .ok (.lrem, 1)) (hne : ¬ y = 0) (kk : qRW g w mt (pc + 1) L (.long (x - x / y * y) :: st) M Q) : qRW g w mt pc L (.long y :: .long x :: st) M Q :=
  fun p e s m args below meth c sz H locs lsA C hP hD hS hL => lv_lrem C.1 C.2.1 hd hne (kk p e s m args below meth c sz H locs lsA C hP hD hS hL)
theorem R_ineg {x : Int32} (hd : decode (m_b mt) pc = .ok (.ineg, 1)) (kk : qRW g w mt (pc + 1) L (.int (-x) :: st) M Q) : qRW g w mt pc L (.int x :: st) M Q :=
  fun p e s m args below meth c sz H locs lsA C hP hD hS hL => lv_ineg C.1 C.2.1 hd (kk p e s m args below meth c sz H locs lsA C hP hD hS hL)
theorem R_lneg {x : Int64} (hd : decode (m_b mt) pc = .ok (.lneg, 1)) (kk : qRW g w mt (pc + 1) L (.long (-x) :: st) M Q) : qRW g w mt pc L (.long x :: st) M Q :=
  fun p e s m args below meth c sz H locs lsA C hP hD hS hL => lv_lneg C.1 C.2.1 hd (kk p e s m args below meth c sz H locs lsA C hP hD hS hL)
theorem R_i2l {x : Int32} (hd : decode (m_b mt) pc = .ok (.i2l, 1)) (kk : qRW g w mt (pc + 1) L (.long x.toInt64 :: st) M Q) : qRW g w mt pc L (.int x :: st) M Q :=
  fun p e s m args below meth c sz H locs lsA C hP hD hS hL => lv_i2l C.1 C.2.1 hd rfl (kk p e s m args below meth c sz H locs lsA C hP hD hS hL)
theorem R_l2i {x : Int64} (hd : decode (m_b mt) pc = .ok (.l2i, 1)) (kk : qRW g w mt (pc + 1) L (.int x.toInt32 :: st) M Q) : qRW g w mt pc L (.long x :: st) M Q :=
  fun p e s m args below meth c sz H locs lsA C hP hD hS hL => lv_l2i C.1 C.2.1 hd rfl (kk p e s m args below meth c sz H locs lsA C hP hD hS hL)
theorem R_i2c {x : Int32} (hd : decode (m_b mt) pc = .ok (.i2c, 1)) (kk : qRW g w mt (pc + 1) L (.int (x.toUInt32 % 65536).toInt32 :: st) M Q) : qRW g w mt pc L (.int x :: st) M Q :=
  fun p e s m args below meth c sz H locs lsA C hP hD hS hL => lv_i2c C.1 C.2.1 hd rfl (kk p e s m args below meth c sz H locs lsA C hP hD hS hL)
theorem R_dup {v : Value} (hd : decode (m_b mt) pc = .ok (.dup, 1)) (hv : v.category = 1) (kk : qRW g w mt (pc + 1) L (v :: v :: st) M Q) : qRW g w mt pc L (v :: st) M Q :=
  fun p e s m args below meth c sz H locs lsA C hP hD hS hL => lv_dup C.1 C.2.1 hd (by rw [qcv_cat]; exact hv) (kk p e s m args below meth c sz H locs lsA C hP hD hS hL)
theorem R_pop {v : Value} (hd : decode (m_b mt) pc = .ok (.pop, 1)) (hv : v.category = 1) (kk : qRW g w mt (pc + 1) L (st) M Q) : qRW g w mt pc L (v :: st) M Q :=
  fun p e s m args below meth c sz H locs lsA C hP hD hS hL => lv_pop C.1 C.2.1 hd (by rw [qcv_cat]; exact hv) (kk p e s m args below meth c sz H locs lsA C hP hD hS hL)
theorem R_dup2 {v u : Value} (hd : decode (m_b mt) pc = .ok (.dup2, 1)) (hv : v.category = 1) (hu : u.category = 1) (kk : qRW g w mt (pc + 1) L (v :: u :: v :: u :: st) M Q) : qRW g w mt pc L (v :: u :: st) M Q :=
  fun p e s m args below meth c sz H locs lsA C hP hD hS hL => lv_dup2_11 C.1 C.2.1 hd (by rw [qcv_cat]; exact hv) (by rw [qcv_cat]; exact hu) (kk p e s m args below meth c sz H locs lsA C hP hD hS hL)
theorem R_dup_x1 {v u : Value} (hd : decode (m_b mt) pc = .ok (.dup_x1, 1)) (hv : v.category = 1) (hu : u.category = 1) (kk : qRW g w mt (pc + 1) L (v :: u :: v :: st) M Q) : qRW g w mt pc L (v :: u :: st) M Q :=
  fun p e s m args below meth c sz H locs lsA C hP hD hS hL => lv_dup_x1 C.1 C.2.1 hd (by rw [qcv_cat]; exact hv) (by rw [qcv_cat]; exact hu) (kk p e s m args below meth c sz H locs lsA C hP hD hS hL)
-- eq
theorem R_if_eq {x : Int32} {off : Int} {tgt : Nat} (hd : decode (m_b mt) pc = .ok (.ifCond .eq off, 3)) (ht : (pc : Int) + off = (tgt : Int)) (kt : (x = 0) → qRW g w mt tgt L st M Q) (kf : ¬ (x = 0) → qRW g w mt (pc + 3) L st M Q) : qRW g w mt pc L (.int x :: st) M Q :=
  fun p e s m args below meth c sz H locs lsA C hP hD hS hL => lv_if_eq C.1 C.2.1 hd ht (fun z => kt z p e s m args below meth c sz H locs lsA C hP hD hS hL) (fun z => kf z p e s m args below meth c sz H locs lsA C hP hD hS hL)
theorem R_icmp_eq {x y : Int32} {off : Int} {tgt : Nat} (hd : decode (m_b mt) pc = .ok (.if_icmp .eq off, 3)) (ht : (pc : Int) + off = (tgt : Int)) (kt : (x = y) → qRW g w mt tgt L st M Q) (kf : ¬ (x = y) → qRW g w mt (pc + 3) L st M Q) : qRW g w mt pc L (.int y :: .int x :: st) M Q :=
  fun p e s m args below meth c sz H locs lsA C hP hD hS hL => lv_icmp_eq C.1 C.2.1 hd ht (fun z => kt z p e s m args below meth c sz H locs lsA C hP hD hS hL) (fun z => kf z p e s m args below meth c sz H locs lsA C hP hD hS hL)
-- ne
theorem R_if_ne {x : Int32} {off : Int} {tgt : Nat} (hd : decode (m_b mt) pc = .ok (.ifCond .ne off, 3)) (ht : (pc : Int) + off = (tgt : Int)) (kt : ¬ (x = 0) → qRW g w mt tgt L st M Q) (kf : (x = 0) → qRW g w mt (pc + 3) L st M Q) : qRW g w mt pc L (.int x :: st) M Q :=
  fun p e s m args below meth c sz H locs lsA C hP hD hS hL => lv_if_ne C.1 C.2.1 hd ht (fun z => kt z p e s m args below meth c sz H locs lsA C hP hD hS hL) (fun z => kf z p e s m args below meth c sz H locs lsA C hP hD hS hL)
theorem R_icmp_ne {x y : Int32} {off : Int} {tgt : Nat} (hd : decode (m_b mt) pc = .ok (.if_icmp .ne off, 3)) (ht : (pc : Int) + off = (tgt : Int)) (kt : ¬ (x = y) → qRW g w mt tgt L st M Q) (kf : (x = y) → qRW g w mt (pc + 3) L st M Q) : qRW g w mt pc L (.int y :: .int x :: st) M Q :=
  fun p e s m args below meth c sz H locs lsA C hP hD hS hL => lv_icmp_ne C.1 C.2.1 hd ht (fun z => kt z p e s m args below meth c sz H locs lsA C hP hD hS hL) (fun z => kf z p e s m args below meth c sz H locs lsA C hP hD hS hL)
-- lt
theorem R_if_lt {x : Int32} {off : Int} {tgt : Nat} (hd : decode (m_b mt) pc = .ok (.ifCond .lt off, 3)) (ht : (pc : Int) + off = (tgt : Int)) (kt : (x < 0) → qRW g w mt tgt L st M Q) (kf : ¬ (x < 0) → qRW g w mt (pc + 3) L st M Q) : qRW g w mt pc L (.int x :: st) M Q :=
  fun p e s m args below meth c sz H locs lsA C hP hD hS hL => lv_if_lt C.1 C.2.1 hd ht (fun z => kt z p e s m args below meth c sz H locs lsA C hP hD hS hL) (fun z => kf z p e s m args below meth c sz H locs lsA C hP hD hS hL)
theorem R_icmp_lt {x y : Int32} {off : Int} {tgt : Nat} (hd : decode (m_b mt) pc = .ok (.if_icmp .lt off, 3)) (ht : (pc : Int) + off = (tgt : Int)) (kt : (x < y) → qRW g w mt tgt L st M Q) (kf : ¬ (x < y) → qRW g w mt (pc + 3) L st M Q) : qRW g w mt pc L (.int y :: .int x :: st) M Q :=
  fun p e s m args below meth c sz H locs lsA C hP hD hS hL => lv_icmp_lt C.1 C.2.1 hd ht (fun z => kt z p e s m args below meth c sz H locs lsA C hP hD hS hL) (fun z => kf z p e s m args below meth c sz H locs lsA C hP hD hS hL)
-- ge
theorem R_if_ge {x : Int32} {off : Int} {tgt : Nat} (hd : decode (m_b mt) pc = .ok (.ifCond .ge off, 3)) (ht : (pc : Int) + off = (tgt : Int)) (kt : (0 ≤ x) → qRW g w mt tgt L st M Q) (kf : ¬ (0 ≤ x) → qRW g w mt (pc + 3) L st M Q) : qRW g w mt pc L (.int x :: st) M Q :=
  fun p e s m args below meth c sz H locs lsA C hP hD hS hL => lv_if_ge C.1 C.2.1 hd ht (fun z => kt z p e s m args below meth c sz H locs lsA C hP hD hS hL) (fun z => kf z p e s m args below meth c sz H locs lsA C hP hD hS hL)
theorem R_icmp_ge {x y : Int32} {off : Int} {tgt : Nat} (hd : decode (m_b mt) pc = .ok (.if_icmp .ge off, 3)) (ht : (pc : Int) + off = (tgt : Int)) (kt : (y ≤ x) → qRW g w mt tgt L st M Q) (kf : ¬ (y ≤ x) → qRW g w mt (pc + 3) L st M Q) : qRW g w mt pc L (.int y :: .int x :: st) M Q :=
  fun p e s m args below meth c sz H locs lsA C hP hD hS hL => lv_icmp_ge C.1 C.2.1 hd ht (fun z => kt z p e s m args below meth c sz H locs lsA C hP hD hS hL) (fun z => kf z p e s m args below meth c sz H locs lsA C hP hD hS hL)
-- gt
theorem R_if_gt {x : Int32} {off : Int} {tgt : Nat} (hd : decode (m_b mt) pc = .ok (.ifCond .gt off, 3)) (ht : (pc : Int) + off = (tgt : Int)) (kt : (0 < x) → qRW g w mt tgt L st M Q) (kf : ¬ (0 < x) → qRW g w mt (pc + 3) L st M Q) : qRW g w mt pc L (.int x :: st) M Q :=
  fun p e s m args below meth c sz H locs lsA C hP hD hS hL => lv_if_gt C.1 C.2.1 hd ht (fun z => kt z p e s m args below meth c sz H locs lsA C hP hD hS hL) (fun z => kf z p e s m args below meth c sz H locs lsA C hP hD hS hL)
theorem R_icmp_gt {x y : Int32} {off : Int} {tgt : Nat} (hd : decode (m_b mt) pc = .ok (.if_icmp .gt off, 3)) (ht : (pc : Int) + off = (tgt : Int)) (kt : (y < x) → qRW g w mt tgt L st M Q) (kf : ¬ (y < x) → qRW g w mt (pc + 3) L st M Q) : qRW g w mt pc L (.int y :: .int x :: st) M Q :=
  fun p e s m args below meth c sz H locs lsA C hP hD hS hL => lv_icmp_gt C.1 C.2.1 hd ht (fun z => kt z p e s m args below meth c sz H locs lsA C hP hD hS hL) (fun z => kf z p e s m args below meth c sz H locs lsA C hP hD hS hL)
-- le
theorem R_if_le {x : Int32} {off : Int} {tgt : Nat} (hd : decode (m_b mt) pc = .ok (.ifCond .le off, 3)) (ht : (pc : Int) + off = (tgt : Int)) (kt : (x ≤ 0) → qRW g w mt tgt L st M Q) (kf : ¬ (x ≤ 0) → qRW g w mt (pc + 3) L st M Q) : qRW g w mt pc L (.int x :: st) M Q :=
  fun p e s m args below meth c sz H locs lsA C hP hD hS hL => lv_if_le C.1 C.2.1 hd ht (fun z => kt z p e s m args below meth c sz H locs lsA C hP hD hS hL) (fun z => kf z p e s m args below meth c sz H locs lsA C hP hD hS hL)
theorem R_icmp_le {x y : Int32} {off : Int} {tgt : Nat} (hd : decode (m_b mt) pc = .ok (.if_icmp .le off, 3)) (ht : (pc : Int) + off = (tgt : Int)) (kt : (x ≤ y) → qRW g w mt tgt L st M Q) (kf : ¬ (x ≤ y) → qRW g w mt (pc + 3) L st M Q) : qRW g w mt pc L (.int y :: .int x :: st) M Q :=
  fun p e s m args below meth c sz H locs lsA C hP hD hS hL => lv_icmp_le C.1 C.2.1 hd ht (fun z => kt z p e s m args below meth c sz H locs lsA C hP hD hS hL) (fun z => kf z p e s m args below meth c sz H locs lsA C hP hD hS hL)
theorem R_goto {off : Int} {tgt : Nat} (hd : decode (m_b mt) pc = .ok (.goto off, 3)) (ht : (pc : Int) + off = (tgt : Int)) (kk : qRW g w mt tgt L st M Q) : qRW g w mt pc L st M Q :=
  fun p e s m args below meth c sz H locs lsA C hP hD hS hL => lv_goto C.1 C.2.1 hd ht (kk p e s m args below meth c sz H locs lsA C hP hD hS hL)
theorem R_lcmp {x y : Int64} (hd : decode (m_b mt) pc = .ok (.lcmp, 1)) (kk : qRW g w mt (pc + 1) L (.int (lg_cmp x y) :: st) M Q) : qRW g w mt pc L (.long y :: .long x :: st) M Q :=
  fun p e s m args below meth c sz H locs lsA C hP hD hS hL => W.lcmp C.1 C.2.1 hd (kk p e s m args below meth c sz H locs lsA C hP hD hS hL)
theorem R_tableIn {dflt lo hi : Int} {offs : Array Int} {len : Nat} {x : Int32} {off : Int} {tgt : Nat} (hd : decode (m_b mt) pc = .ok (.tableswitch dflt lo hi offs, len)) (h1 : ¬ x.toInt < lo) (h2 : ¬ hi < x.toInt) (ho : offs[(x.toInt - lo).toNat]? = some off) (ht : (pc : Int) + off = (tgt : Int)) (kk : qRW g w mt tgt L st M Q) : qRW g w mt pc L (.int x :: st) M Q :=
  fun p e s m args below meth c sz H locs lsA C hP hD hS hL => lv_tableIn C.1 C.2.1 hd h1 h2 ho ht (kk p e s m args below meth c sz H locs lsA C hP hD hS hL)
theorem R_tableOut {dflt lo hi : Int} {offs : Array Int} {len : Nat} {x : Int32} {tgt : Nat} (hd : decode (m_b mt) pc = .ok (.tableswitch dflt lo hi offs, len)) (h : x.toInt < lo ∨ hi < x.toInt) (ht : (pc : Int) + dflt = (tgt : Int)) (kk : qRW g w mt tgt L st M Q) : qRW g w mt pc L (.int x :: st) M Q :=
  fun p e s m args below meth c sz H locs lsA C hP hD hS hL => lv_tableOut C.1 C.2.1 hd h ht (kk p e s m args below meth c sz H locs lsA C hP hD hS hL)
theorem q_ret {sz : Nat} {s : State} {H : Heap} {locs : List Loc} {v : Option Value} {a : Array Value} (hP : va_P (q_D w) vwCl (qws g w M) H) (hD : va_D (qA g w sz) (qws g w M)) (hS : va_S (qA g w sz) s.heap H locs) (hq : Q v M) (t : State) (ht : t.heap = H) : qPost g w sz Q a s (.returned (v.map (qcv w))) t :=
  ⟨⟨v, M, rfl, hq, by rw [ht]; exact hP, hD⟩, hS.F ht⟩
theorem R_ireturn {x : Int32} {ty : FieldType} (hd : decode (m_b mt) pc = .ok (.ireturn, 1)) (hr : m_r mt = some ty) (hn : narrow ty (.int x) = .int x) (hq : Q (some (.int x)) M) : qRW g w mt pc L [.int x] M Q :=
  fun p e s m args below meth c sz H locs lsA C hP hD hS hL => W.zret C.1 C.2.1 (C.2.2.2.1.trans hr) hn (fun t ht hW => q_ret (v := some (.int x)) hP hD hS hq t ht) hS.2.2 hd C.2.2.2.2.1
theorem R_lreturn {x : Int64} (hd : decode (m_b mt) pc = .ok (.lreturn, 1)) (hr : m_r mt = some .long) (hq : Q (some (.long x)) M) : qRW g w mt pc L [.long x] M Q :=
  fun p e s m args below meth c sz H locs lsA C hP hD hS hL => W.lret C.1 C.2.1 (C.2.2.2.1.trans hr) (fun t ht hW => q_ret (v := some (.long x)) hP hD hS hq t ht) hS.2.2 hd C.2.2.2.2.1
theorem R_return (hd : decode (m_b mt) pc = .ok (.return_, 1)) (hr : m_r mt = none) (hq : Q none M) : qRW g w mt pc L [] M Q :=
  fun p e s m args below meth c sz H locs lsA C hP hD hS hL => W.vret C.1 C.2.1 (C.2.2.2.1.trans hr) (fun t ht hW => q_ret (v := none) hP hD hS hq t ht) hS.2.2 hd C.2.2.2.2.1
theorem R_areturn {x : Nat} {n : String} (hd : decode (m_b mt) pc = .ok (.areturn, 1)) (hr : m_r mt = some (.object n)) (hq : Q (some (.ref x)) M) : qRW g w mt pc L [.ref x] M Q :=
  fun p e s m args below meth c sz H locs lsA C hP hD hS hL => W.aret C.1 C.2.1 (C.2.2.2.1.trans hr) (Or.inl ⟨n, rfl⟩) (Or.inr ⟨_, rfl⟩) (fun t ht hW => q_ret (v := some (.ref x)) hP hD hS hq t ht) hS.2.2 hd C.2.2.2.2.1
-- fields
def qCK (ci : Nat) (C : String) (T : u_T) (N : Nat) (ty : Nat → FieldType) : Prop := vwCl[ci]? = some (C, T, N) ∧ (∀ z ∈ u_ws C T N, z ∈ qW) ∧ (∀ k, k < N → parseFieldDescriptor (T k).2.2.1 = some (ty k)) ∧ ∀ a, a < N → ∀ b, b < N → a ≠ b → (T a).2.1 ≠ (T b).2.1
def qLF (own : String) (idx ci k : Nat) (fty : FieldType) : Prop := ∃ (C : String) (T : u_T) (N : Nat) (ty : Nat → FieldType), qCK ci C T N ty ∧ k < N ∧ Cond.fieldLink own idx C (T k).2.1 (T k).2.2.1 ∈ qW ∧ (T k).1 = C ∧ (T k).2.2.2 = false ∧ ty k = fty
def qLG (own : String) (idx ci k : Nat) : Prop := ∃ (C : String) (T : u_T) (N : Nat) (ty : Nat → FieldType), qCK ci C T N ty ∧ k < N ∧ Cond.fieldLink own idx C (T k).2.1 (T k).2.2.1 ∈ qW ∧ (T k).1 = C
theorem qLF.get {own : String} {idx ci k : Nat} {f : FieldType} (h : qLF own idx ci k f) : qLG own idx ci k := by
  obtain ⟨C, T, N, ty, h1, h2, h3, h4, -⟩ := h
  exact ⟨C, T, N, ty, h1, h2, h3, h4⟩
theorem R_gett {idx ci k o : Nat} {fl : List (Option Nat)} {f : Option Nat} (hd : decode (m_b mt) pc = .ok (.getfield idx, 3)) (lk : qLG (m_y mt).cls idx ci k) (ho : o < qN g) (hs : qsh g o = .inl (ci, fl)) (hf : fl[k]? = some f) (kk : qRW g w mt (pc + 3) L (qfV M o k f :: st) M Q) : qRW g w mt pc L (.ref o :: st) M Q := by
  intro p e s m args below meth c sz H locs lsA C hP hD hS hL
  obtain ⟨CC, T, N, ty, ⟨h1, h2, h3, h4⟩, h5, h6, h7⟩ := lk
  have he := qws_at (w := w) (M := M) ho
  rw [hs] at he
  refine va_get (D := q_D w) (ci := ci) (v := qcv w (qfV M o k f)) (C := CC) (T := T) (N := N) C.1 C.2.1 C.2.2.2.2.2.2.1 h2 C.2.2.2.2.2.1 C.2.2.2.2.2.2.2.2.1 hP o he h1 k h5 (C.2.2.2.2.2.2.1 _ h6) (by rw [h7]; exact fun _ z => z) (by rw [qfl_get hf, Nat.zero_add]; cases f <;> rfl) hd ?_
  cases f with
  | none => exact kk p e s m args below meth c sz H locs lsA C hP hD hS hL
  | some r => exact kk p e s m args below meth c sz H locs lsA C hP hD hS hL
theorem R_getI {idx ci k o : Nat} {fl : List (Option Nat)} (hd : decode (m_b mt) pc = .ok (.getfield idx, 3)) (lk : qLG (m_y mt).cls idx ci k) (ho : o < qN g) (hs : qsh g o = .inl (ci, fl)) (hf : fl[k]? = some none) (kk : qRW g w mt (pc + 3) L (.int (M.1 o k) :: st) M Q) : qRW g w mt pc L (.ref o :: st) M Q := R_gett hd lk ho hs hf kk
theorem R_getR {idx ci k o r : Nat} {fl : List (Option Nat)} (hd : decode (m_b mt) pc = .ok (.getfield idx, 3)) (lk : qLG (m_y mt).cls idx ci k) (ho : o < qN g) (hs : qsh g o = .inl (ci, fl)) (hf : fl[k]? = some (some r)) (kk : qRW g w mt (pc + 3) L (.ref r :: st) M Q) : qRW g w mt pc L (.ref o :: st) M Q := R_gett hd lk ho hs hf kk
theorem R_putI {idx ci k o : Nat} {x : Int32} {fl : List (Option Nat)} {fty : FieldType} (hd : decode (m_b mt) pc = .ok (.putfield idx, 3)) (lk : qLF (m_y mt).cls idx ci k fty) (ho : o < qN g) (hs : qsh g o = .inl (ci, fl)) (hf : fl[k]? = some none) (hn : narrow fty (.int x) = .int x) (hfit : fits fty (.int x) = true) (kk : qRW g w mt (pc + 3) L st (qIs M o k x) Q) : qRW g w mt pc L (.int x :: .ref o :: st) M Q := by
  intro p e s m args below meth c sz H locs lsA C hP hD hS hL
  obtain ⟨CC, T, N, ty, ⟨h1, h2, h3, h4⟩, h5, h6, h7, h8, h9⟩ := lk
  have he := qws_at (w := w) (M := M) ho
  rw [hs] at he
  have hset : (qws g w M).set o (q_a w o, .inr (ci, (qfl w M o 0 fl).set k (.int x))) = qws g w (qIs M o k x) :=
    qws_set ho (by rw [hs, qfl_set hf]; rfl) (fun a ha => (qIs_no ha).symm) (fun a ha => rfl)
  refine va_put (D := q_D w) (ci := ci) (v := .int x) (ty := fty) (C := CC) (T := T) (N := N) C.1 C.2.1 C.2.2.2.2.2.2.1 h2 ty h3 h4 C.2.2.2.2.2.1 C.2.2.2.2.2.2.2.2.1 hP hD hS o he h1 k h5 (C.2.2.2.2.2.2.1 _ h6) (by rw [h7]; exact fun _ z => z) h8 (by rw [h3 k h5, h9]) hn hfit (by rw [qfl_len]; exact (List.getElem?_eq_some_iff.mp hf).1) hd (fun H1 locs1 hP1 hD1 hS1 => ?_)
  rw [hset] at hP1 hD1
  exact kk p e s m args below meth c sz H1 locs1 lsA C hP1 hD1 hS1 hL

theorem R_iald {o n b : Nat} {i : Int32} (hd : decode (m_b mt) pc = .ok (.iaload, 1)) (ho : o < qN g) (hs : qsh g o = .inr (n, 0, b)) (hin : vp_in i n) (kk : qRW g w mt (pc + 1) L (.int (M.1 o i.toNatClampNeg) :: st) M Q) : qRW g w mt pc L (.int i :: .ref o :: st) M Q := by
  intro p e s m args below meth c sz H locs lsA C hP hD hS hL
  have he := qws_at (w := w) (M := M) ho
  rw [hs] at he
  exact va_iald C.1 C.2.1 C.2.2.2.2.2.2.2.2.1 hP o 0 he rfl hin hd (kk p e s m args below meth c sz H locs lsA C hP hD hS hL)
theorem R_ialdN {o n b j : Nat} (hd : decode (m_b mt) pc = .ok (.iaload, 1)) (ho : o < qN g) (hs : qsh g o = .inr (n, 0, b)) (hj : j < n) (hn : n < 2147483648) (kk : qRW g w mt (pc + 1) L (.int (M.1 o j) :: st) M Q) : qRW g w mt pc L (.int (nI j) :: .ref o :: st) M Q :=
  R_iald hd ho hs (vp_in_nI hj hn) (by rw [nI_clamp (by omega)]; exact kk)
theorem R_iast {o n b : Nat} {i : Int32} {x : Int32} (hd : decode (m_b mt) pc = .ok (.iastore, 1)) (ho : o < qN g) (hs : qsh g o = .inr (n, 0, b)) (hin : vp_in i n) (kk : qRW g w mt (pc + 1) L st (qIs M o i.toNatClampNeg x) Q) : qRW g w mt pc L (.int x :: .int i :: .ref o :: st) M Q := by
  intro p e s m args below meth c sz H locs lsA C hP hD hS hL
  have he := qws_at (w := w) (M := M) ho
  rw [hs] at he
  refine va_iast C.1 C.2.1 C.2.2.2.2.2.2.2.2.1 hP hD hS o 0 he rfl hin hd (fun H1 locs1 hP1 hD1 hS1 => ?_)
  rw [qws_set (M := M) (N := qIs M o i.toNatClampNeg x) ho (by rw [hs]; simp only [qcell, qIs_u]) (fun a ha => (qIs_no ha).symm) (fun a ha => rfl)] at hP1 hD1
  exact kk p e s m args below meth c sz H1 locs1 lsA C hP1 hD1 hS1 hL
theorem R_iastN {o n b j : Nat} {x : Int32} (hd : decode (m_b mt) pc = .ok (.iastore, 1)) (ho : o < qN g) (hs : qsh g o = .inr (n, 0, b)) (hj : j < n) (hn : n < 2147483648) (kk : qRW g w mt (pc + 1) L st (qIs M o j x) Q) : qRW g w mt pc L (.int x :: .int (nI j) :: .ref o :: st) M Q :=
  R_iast hd ho hs (vp_in_nI hj hn) (by rw [nI_clamp (by omega)]; exact kk)
theorem R_cald {o n b : Nat} {i : Int32} (hd : decode (m_b mt) pc = .ok (.caload, 1)) (ho : o < qN g) (hs : qsh g o = .inr (n, 1, b)) (hin : vp_in i n) (kk : qRW g w mt (pc + 1) L (.int (M.1 o i.toNatClampNeg) :: st) M Q) : qRW g w mt pc L (.int i :: .ref o :: st) M Q := by
  intro p e s m args below meth c sz H locs lsA C hP hD hS hL
  have he := qws_at (w := w) (M := M) ho
  rw [hs] at he
  exact va_cald C.1 C.2.1 C.2.2.2.2.2.2.2.2.1 hP o 1 he rfl hin hd (kk p e s m args below meth c sz H locs lsA C hP hD hS hL)
theorem R_caldN {o n b j : Nat} (hd : decode (m_b mt) pc = .ok (.caload, 1)) (ho : o < qN g) (hs : qsh g o = .inr (n, 1, b)) (hj : j < n) (hn : n < 2147483648) (kk : qRW g w mt (pc + 1) L (.int (M.1 o j) :: st) M Q) : qRW g w mt pc L (.int (nI j) :: .ref o :: st) M Q :=
  R_cald hd ho hs (vp_in_nI hj hn) (by rw [nI_clamp (by omega)]; exact kk)
theorem R_cast {o n b : Nat} {i : Int32} {x : Int32} (hd : decode (m_b mt) pc = .ok (.castore, 1)) (ho : o < qN g) (hs : qsh g o = .inr (n, 1, b)) (hin : vp_in i n) (kk : qRW g w mt (pc + 1) L st (qIs M o i.toNatClampNeg (vp_nar .char x)) Q) : qRW g w mt pc L (.int x :: .int i :: .ref o :: st) M Q := by
  intro p e s m args below meth c sz H locs lsA C hP hD hS hL
  have he := qws_at (w := w) (M := M) ho
  rw [hs] at he
  refine va_cast C.1 C.2.1 C.2.2.2.2.2.2.2.2.1 hP hD hS o 1 he rfl hin hd (fun H1 locs1 hP1 hD1 hS1 => ?_)
  rw [qws_set (M := M) (N := qIs M o i.toNatClampNeg (vp_nar .char x)) ho (by rw [hs]; simp only [qcell, qIs_u]) (fun a ha => (qIs_no ha).symm) (fun a ha => rfl)] at hP1 hD1
  exact kk p e s m args below meth c sz H1 locs1 lsA C hP1 hD1 hS1 hL
theorem R_castN {o n b j : Nat} {x : Int32} (hd : decode (m_b mt) pc = .ok (.castore, 1)) (ho : o < qN g) (hs : qsh g o = .inr (n, 1, b)) (hj : j < n) (hn : n < 2147483648) (kk : qRW g w mt (pc + 1) L st (qIs M o j (vp_nar .char x)) Q) : qRW g w mt pc L (.int x :: .int (nI j) :: .ref o :: st) M Q :=
  R_cast hd ho hs (vp_in_nI hj hn) (by rw [nI_clamp (by omega)]; exact kk)
theorem R_lald {o n b : Nat} {i : Int32} (hd : decode (m_b mt) pc = .ok (.laload, 1)) (ho : o < qN g) (hs : qsh g o = .inr (n, 2, b)) (hin : vp_in i n) (kk : qRW g w mt (pc + 1) L (.long (M.2 o i.toNatClampNeg) :: st) M Q) : qRW g w mt pc L (.int i :: .ref o :: st) M Q := by
  intro p e s m args below meth c sz H locs lsA C hP hD hS hL
  have he := qws_at (w := w) (M := M) ho
  rw [hs] at he
  exact va_lald C.1 C.2.1 C.2.2.2.2.2.2.2.2.1 hP o 2 he rfl hin hd (kk p e s m args below meth c sz H locs lsA C hP hD hS hL)
theorem R_laldN {o n b j : Nat} (hd : decode (m_b mt) pc = .ok (.laload, 1)) (ho : o < qN g) (hs : qsh g o = .inr (n, 2, b)) (hj : j < n) (hn : n < 2147483648) (kk : qRW g w mt (pc + 1) L (.long (M.2 o j) :: st) M Q) : qRW g w mt pc L (.int (nI j) :: .ref o :: st) M Q :=
  R_lald hd ho hs (vp_in_nI hj hn) (by rw [nI_clamp (by omega)]; exact kk)
theorem R_last {o n b : Nat} {i : Int32} {x : Int64} (hd : decode (m_b mt) pc = .ok (.lastore, 1)) (ho : o < qN g) (hs : qsh g o = .inr (n, 2, b)) (hin : vp_in i n) (kk : qRW g w mt (pc + 1) L st (qLs M o i.toNatClampNeg x) Q) : qRW g w mt pc L (.long x :: .int i :: .ref o :: st) M Q := by
  intro p e s m args below meth c sz H locs lsA C hP hD hS hL
  have he := qws_at (w := w) (M := M) ho
  rw [hs] at he
  refine va_last C.1 C.2.1 C.2.2.2.2.2.2.2.2.1 hP hD hS o 2 he rfl hin hd (fun H1 locs1 hP1 hD1 hS1 => ?_)
  rw [qws_set (M := M) (N := qLs M o i.toNatClampNeg x) ho (by rw [hs]; simp only [qcell, qLs_u]) (fun a ha => rfl) (fun a ha => (qLs_no ha).symm)] at hP1 hD1
  exact kk p e s m args below meth c sz H1 locs1 lsA C hP1 hD1 hS1 hL
theorem R_lastN {o n b j : Nat} {x : Int64} (hd : decode (m_b mt) pc = .ok (.lastore, 1)) (ho : o < qN g) (hs : qsh g o = .inr (n, 2, b)) (hj : j < n) (hn : n < 2147483648) (kk : qRW g w mt (pc + 1) L st (qLs M o j x) Q) : qRW g w mt pc L (.long x :: .int (nI j) :: .ref o :: st) M Q :=
  R_last hd ho hs (vp_in_nI hj hn) (by rw [nI_clamp (by omega)]; exact kk)
theorem R_aald3 {o n b : Nat} {i : Int32} (hd : decode (m_b mt) pc = .ok (.aaload, 1)) (ho : o < qN g) (hs : qsh g o = .inr (n, 3, b)) (hin : vp_in i n) (kk : qRW g w mt (pc + 1) L (.ref (b + i.toNatClampNeg) :: st) M Q) : qRW g w mt pc L (.int i :: .ref o :: st) M Q := by
  intro p e s m args below meth c sz H locs lsA C hP hD hS hL
  have he := qws_at (w := w) (M := M) ho
  rw [hs] at he
  have hlt : i.toNatClampNeg < n := Nat.not_le.mp fun q => hin (Or.inr q)
  exact W.aald (v := va_rf (some (q_a w (b + i.toNatClampNeg)))) (ty := .array .int) C.1 C.2.1 (hP o _ he) ((C.2.2.2.2.2.2.2.2.1.2 3 _ rfl).1 n (fun j => va_rf (some (q_a w (b + j))))) rfl (fun q => by cases q) (by show ¬ (i < 0 ∨ (arrV _ _ _).slots.size ≤ _); rw [arrV_size]; exact hin) (by show (arrV _ _ _).slots[_]? = _; rw [arrV_read _ _ hlt]) rfl rfl hd (kk p e s m args below meth c sz H locs lsA C hP hD hS hL)
theorem R_aald3N {o n b j : Nat} (hd : decode (m_b mt) pc = .ok (.aaload, 1)) (ho : o < qN g) (hs : qsh g o = .inr (n, 3, b)) (hj : j < n) (hn : n < 2147483648) (kk : qRW g w mt (pc + 1) L (.ref (b + j) :: st) M Q) : qRW g w mt pc L (.int (nI j) :: .ref o :: st) M Q :=
  R_aald3 hd ho hs (vp_in_nI hj hn) (by rw [nI_clamp (by omega)]; exact kk)
theorem R_aald4 {o n b : Nat} {i : Int32} (hd : decode (m_b mt) pc = .ok (.aaload, 1)) (ho : o < qN g) (hs : qsh g o = .inr (n, 4, b)) (hin : vp_in i n) (kk : qRW g w mt (pc + 1) L (.ref (b + i.toNatClampNeg) :: st) M Q) : qRW g w mt pc L (.int i :: .ref o :: st) M Q := by
  intro p e s m args below meth c sz H locs lsA C hP hD hS hL
  have he := qws_at (w := w) (M := M) ho
  rw [hs] at he
  have hlt : i.toNatClampNeg < n := Nat.not_le.mp fun q => hin (Or.inr q)
  exact W.aald (v := va_rf (some (q_a w (b + i.toNatClampNeg)))) (ty := .array .long) C.1 C.2.1 (hP o _ he) ((C.2.2.2.2.2.2.2.2.1.2 4 _ rfl).1 n (fun j => va_rf (some (q_a w (b + j))))) rfl (fun q => by cases q) (by show ¬ (i < 0 ∨ (arrV _ _ _).slots.size ≤ _); rw [arrV_size]; exact hin) (by show (arrV _ _ _).slots[_]? = _; rw [arrV_read _ _ hlt]) rfl rfl hd (kk p e s m args below meth c sz H locs lsA C hP hD hS hL)
theorem R_aald4N {o n b j : Nat} (hd : decode (m_b mt) pc = .ok (.aaload, 1)) (ho : o < qN g) (hs : qsh g o = .inr (n, 4, b)) (hj : j < n) (hn : n < 2147483648) (kk : qRW g w mt (pc + 1) L (.ref (b + j) :: st) M Q) : qRW g w mt pc L (.int (nI j) :: .ref o :: st) M Q :=
  R_aald4 hd ho hs (vp_in_nI hj hn) (by rw [nI_clamp (by omega)]; exact kk)
theorem R_gets {idx k : Nat} (hd : decode (m_b mt) pc = .ok (.getstatic idx, 3)) (hk : k < 3) (hl : Cond.fieldLink (m_y mt).cls idx "ShiftMender" (qtn k) "[I" ∈ qW) (kk : qRW g w mt (pc + 3) L (.ref (1000 + k) :: st) M Q) : qRW g w mt pc L st M Q :=
  fun p e s m args below meth c sz H locs lsA C hP hD hS hL => va_gets C.1 C.2.1 (C.2.2.2.2.2.2.2.2.2.2 k hk).1 (by have h := C.2.2.2.2.2.2.2.1; subst h; exact hS) C.2.2.2.2.2.1 (C.2.2.2.2.2.2.1 _ hl) (fun _ z => z) hd (kk p e s m args below meth c sz H locs lsA C hP hD hS hL)
theorem R_getsN {idx k : Nat} (hd : decode (m_b mt) pc = .ok (.getstatic idx, 3)) (hk : k < 3) (hl : ∀ U, qNest U → va_Nw (.fieldLinkNest (m_y mt).cls idx "ShiftMender" (qtn k) "[I" "ShiftMender") U) (kk : qRW g w mt (pc + 3) L (.ref (1000 + k) :: st) M Q) : qRW g w mt pc L st M Q :=
  fun p e s m args below meth c sz H locs lsA C hP hD hS hL => va_getsN C.1 C.2.1 (C.2.2.2.2.2.2.2.2.2.2 k hk).1 (by have h := C.2.2.2.2.2.2.2.1; subst h; exact hS) C.2.2.2.2.2.1 (va_Nw.use rfl (hl s C.2.2.2.2.2.2.2.2.2.1)) (fun _ z => z) hd (kk p e s m args below meth c sz H locs lsA C hP hD hS hL)
theorem R_tald {k : Nat} {i : Int32} (hd : decode (m_b mt) pc = .ok (.iaload, 1)) (hk : k < 3) (hin : vp_in i 4) (kk : qRW g w mt (pc + 1) L (.int (qtab k i.toNatClampNeg) :: st) M Q) : qRW g w mt pc L (.int i :: .ref (1000 + k) :: st) M Q :=
  fun p e s m args below meth c sz H locs lsA C hP hD hS hL => va_ti C.1 C.2.1 (C.2.2.2.2.2.2.2.2.2.2 k hk).2 hS hin rfl hd (kk p e s m args below meth c sz H locs lsA C hP hD hS hL)
-- calls
theorem q_back {Qc : qQ} {p : Program} {e : Env} {s : State} {m : MethodId} {args : Array Value} {below : List Frame} {meth : Method} {c : Code} {sz : Nat} {H : Heap} {locs : List Loc} {lsA : Array Slot} {stk : List Value} {a : Array Value}
    (C : qCtx g w mt sz p s m args meth c) (hD : va_D (qA g w sz) (qws g w M)) (hS : va_S (qA g w sz) s.heap H locs) (hL : lv_has lsA (m_n mt) (qcL w L))
    (hr : va_Run p (q_l w) e (m_rm mt) s m args below meth c H locs 0 0 0 0 (F0 m pc lsA stk) (st.map (qcv w)) (qPost g w H.size Qc a) (qA g w H.size))
    (kk : ∀ v N, Qc v N → qRW g w mt (pc + 3) L (v.toList ++ st) N Q) : W p (q_l w) e (m_rm mt) s m args below meth c H locs 0 0 (MQ below (qPost g w sz Q) args s 0 0 (qA g w sz)) (F0 m pc lsA stk) := by
  intro T hT X
  obtain ⟨v, st₀, t, T', LL, h0, X', hLL, e1, e2, ⟨⟨u, N, hv, hq, hP1, hD1⟩, hz, hk⟩, stp⟩ := hr T hT X
  have hv' : v = u.map (qcv w) := by cases hv; rfl
  subst hv'
  rw [h0] at hz hk
  have hle : sz ≤ H.size := by rw [← C.2.2.2.2.2.2.2.1]; exact hS.1
  have hA : ∀ q, qA g w H.size q → qA g w sz q := fun q h => qA_mono hle h
  have hst : (u.map (qcv w)).toList ++ st.map (qcv w) = (u.toList ++ st).map (qcv w) := by cases u <;> simp
  have K := kk u N hq p e s m args below meth c sz T'.heap (locs ++ LL) lsA C (by rw [e1]; exact hP1) (qD_mem hD)
    ⟨Nat.le_trans hS.1 (by rw [e1]; exact hz), fun q h1 h2 => by rw [e1, hk q (Nat.lt_of_lt_of_le h1 hS.1) (fun z => h2 (hA q z))]; exact hS.2.1 q h1 h2, fun q hq => by
      rcases List.mem_append.mp hq with h | h
      · exact hS.2.2 q h
      · exact hA _ (hLL q h)⟩ hL
  rw [← hst] at K
  obtain ⟨t2, a1, b1⟩ := K T' rfl X'
  exact ⟨t2, stp t2 a1, b1⟩
theorem q_pre {p : Program} {s : State} {m : MethodId} {args : Array Value} {meth : Method} {c : Code} {sz : Nat} {H : Heap} {locs : List Loc} (C : qCtx g w mt sz p s m args meth c) (hP : va_P (q_D w) vwCl (qws g w M) H) (hD : va_D (qA g w sz) (qws g w M)) (hS : va_S (qA g w sz) s.heap H locs) (U : State) (hU : U.heap = H) (hW : s.WarmedH U.vm) : qPre g w H.size M U := by
  have hle : sz ≤ H.size := by rw [← C.2.2.2.2.2.2.2.1]; exact hS.1
  refine ⟨by rw [hU], by rw [hU]; exact hP, va_K.moved hW.alike C.2.2.2.2.2.2.2.2.1, hD.weaken (fun _ _ _ _ => trivial), qNest_moved hW C.2.2.2.2.2.2.2.2.2.1, ?_⟩
  rw [hU]
  exact qStat_narrow (qStat_moved hW.alike (qStat_kept C.2.2.2.2.2.2.2.2.2.2 (fun a h1 h2 => hS.2.1 a h1 h2))) (fun q h => qA_mono hle h)
theorem q_cat {st : List Value} : ((st.map (qcv w)).map fun v => v.category) = st.map fun v => v.category := by
  rw [List.map_map]
  exact congrArg (fun f => st.map f) (funext (qcv_cat w))
def qRoom (mt mc : qMT) : Bool := Nat.ble (mc.2.2.2.2.1 + 1) mt.2.2.2.2.1 && Nat.ble (8 + (m_n mc + 11) + mc.2.2.2.2.2) mt.2.2.2.2.2
theorem qRoom_spec {mt mc : qMT} (h : qRoom mt mc = true) : (m_rm mc).frames + 1 ≤ (m_rm mt).frames ∧ 8 + (m_n mc + 11) + (m_rm mc).locals ≤ (m_rm mt).locals := by
  simp only [qRoom, Bool.and_eq_true, Nat.ble_eq] at h
  exact h
def qMI (mc : qMT) (n : Nat) : Prop := Cond.code (m_y mc) (m_b mc) (m_n mc) (m_r mc) ∈ qW ∧ Cond.initialized (m_y mc).cls ∈ qW ∧ ((m_y mc).cls ≠ "java/lang/invoke/MethodHandle" ∧ (m_y mc).cls ≠ "java/lang/invoke/VarHandle") ∧ (parseMethodDescriptor (m_y mc).desc).map (fun d => d.parameters.length) = some n
def qMV (mc : qMT) (n : Nat) : Prop := qMI mc n ∧ Cond.instanceMethod (m_y mc) ∈ qW ∧ Cond.selects (m_y mc).cls (m_y mc) (m_y mc) ∈ qW
def qMS (mc : qMT) (n : Nat) : Prop := qMI mc n ∧ Cond.static (m_y mc) ∈ qW
theorem q_cb {mc : qMT} {n idx : Nat} {p : Program} {s : State} {m : MethodId} {args : Array Value} {meth : Method} {c : Code} {sz : Nat} (C : qCtx g w mt sz p s m args meth c) (hm : qMI mc n) (hl : Cond.methodLink (m_y mt).cls idx (m_y mc) ∈ qW) (hR : qRoom mt mc = true) :
    CallB (m_rm mt) s args (m_y mt).cls idx (m_y mc) (m_b mc) (m_n mc) (m_r mc) (Cond.code (m_y mc) (m_b mc) (m_n mc) (m_r mc) :: qW) (m_rm mc) 0 0 n := by
  obtain ⟨h1, h2, h3, h4⟩ := hm
  have hts := C.2.2.2.2.2.2.1
  have hG : GoodIn qW (Cond.code (m_y mc) (m_b mc) (m_n mc) (m_r mc) :: qW) := fun z hz => by
    rcases List.mem_cons.mp hz with rfl | hz
    · exact qW_good _ h1
    · exact qW_good z hz
  refine ⟨rfl, rfl, (qRoom_spec hR).1, (qRoom_spec hR).2, pay_in hts hG, List.mem_cons_self, hts _ h1, hts _ h2, h3, fun sig h => ?_, hts _ hl⟩
  rw [h] at h4
  exact (Option.some.inj h4).symm
theorem R_callV {mc : qMT} {n idx r : Nat} {As : List Value} {ci : Nat} {fl : List (Option Nat)} {Qc : qQ} {stk : List Value} (hd : decode (m_b mt) pc = .ok (.invokevirtual idx, 3)) (hl : Cond.methodLink (m_y mt).cls idx (m_y mc) ∈ qW) (hm : qMV mc n) (hR : qRoom mt mc = true) (ho : r < qN g) (hs : qsh g r = .inl (ci, fl)) (hci : vwCl[ci]?.map (fun q => q.1) = some (m_y mc).cls) (hst : stk = As.reverse ++ .ref r :: st) (hn : As.length = n) (hcat : (st.map fun v => v.category).sum ≤ 8) (hM : qSem g mc (.ref r :: As) M Qc)
    (kk : ∀ v N, Qc v N → qRW g w mt (pc + 3) L (v.toList ++ st) N Q) : qRW g w mt pc L stk M Q := by
  intro p e s m args below meth c sz H locs lsA C hP hD hS hL
  subst hst
  have hts := C.2.2.2.2.2.2.1
  have he := qws_at (w := w) (M := M) ho
  rw [hs] at he
  obtain ⟨q, hq, hqe⟩ : ∃ q, vwCl[ci]? = some q ∧ q.1 = (m_y mc).cls := by
    cases hq : vwCl[ci]? with
    | none => rw [hq] at hci; cases hci
    | some q => rw [hq] at hci; exact ⟨q, rfl, Option.some.inj hci⟩
  have hrec := va_recv C.2.2.2.2.2.2.2.2.1 hP hq he
  rw [hqe] at hrec
  refine q_back C hD hS hL (va_runV (As := As.map (qcv w)) (C := (m_y mc).cls) (n := n) (Pc := va_Pc ((Value.ref r :: As).map (qcv w)) (qPre g w H.size M)) ⟨C.1, C.2.1, C.2.2.1, C.2.2.2.2.2.1, hts⟩ (hM w H.size) ⟨q_cb C hm.1 hl hR, hts _ hm.2.1, hts _ hm.2.2⟩ ⟨q_fits, hrec, fun U hU hW => ⟨rfl, q_pre C hP hD hS U hU hW⟩⟩ rfl (by rw [List.length_map]; exact hn) hL.1 (by simp [List.map_append, List.map_reverse, qcv]) (lv_room (by rw [q_cat]; exact hcat)) hd ⟨Nat.zero_le _, Nat.zero_le _⟩) kk
theorem R_callS {mc : qMT} {n idx : Nat} {As : List Value} {Qc : qQ} {stk : List Value} (hd : decode (m_b mt) pc = .ok (.invokestatic idx, 3)) (hl : Cond.methodLink (m_y mt).cls idx (m_y mc) ∈ qW) (hm : qMS mc n) (hR : qRoom mt mc = true) (hst : stk = As.reverse ++ st) (hn : As.length = n) (hcat : (st.map fun v => v.category).sum ≤ 8) (hM : qSem g mc As M Qc)
    (kk : ∀ v N, Qc v N → qRW g w mt (pc + 3) L (v.toList ++ st) N Q) : qRW g w mt pc L stk M Q := by
  intro p e s m args below meth c sz H locs lsA C hP hD hS hL
  subst hst
  have hts := C.2.2.2.2.2.2.1
  refine q_back C hD hS hL (va_runS (As := As.map (qcv w)) (n := n) (Pc := va_Pc (As.map (qcv w)) (qPre g w H.size M)) ⟨C.1, C.2.1, C.2.2.1, C.2.2.2.2.2.1, hts⟩ (hM w H.size) ⟨q_cb C hm.1 hl hR, hts _ hm.2⟩ ⟨q_fits, fun U hU hW => ⟨rfl, q_pre C hP hD hS U hU hW⟩⟩ rfl (by rw [List.length_map]; exact hn) hL.1 (by simp [List.map_append, List.map_reverse]) (lv_room (by rw [q_cat]; exact hcat)) hd ⟨Nat.zero_le _, Nat.zero_le _⟩) kk
theorem R_callSN {mc : qMT} {n idx : Nat} {host : String} {As : List Value} {Qc : qQ} {stk : List Value} (hd : decode (m_b mt) pc = .ok (.invokestatic idx, 3)) (hl : ∀ U, qNest U → va_Nw (.methodLinkNest (m_y mt).cls idx (m_y mc) host) U) (hm : qMS mc n) (hR : qRoom mt mc = true) (hst : stk = As.reverse ++ st) (hn : As.length = n) (hcat : (st.map fun v => v.category).sum ≤ 8) (hM : qSem g mc As M Qc)
    (kk : ∀ v N, Qc v N → qRW g w mt (pc + 3) L (v.toList ++ st) N Q) : qRW g w mt pc L stk M Q := by
  intro p e s m args below meth c sz H locs lsA C hP hD hS hL
  subst hst
  have hts := C.2.2.2.2.2.2.1
  obtain ⟨h1, h2, h3, h4⟩ := hm.1
  have hG : GoodIn qW (Cond.code (m_y mc) (m_b mc) (m_n mc) (m_r mc) :: qW) := fun z hz => by
    rcases List.mem_cons.mp hz with rfl | hz
    · exact qW_good _ h1
    · exact qW_good z hz
  refine q_back C hD hS hL (va_runSN (host := host) (As := As.map (qcv w)) (n := n) (Pc := va_Pc (As.map (qcv w)) (qPre g w H.size M)) ⟨C.1, C.2.1, C.2.2.1, C.2.2.2.2.2.1, hts⟩ (hM w H.size) ⟨⟨⟨rfl, rfl, (qRoom_spec hR).1, (qRoom_spec hR).2, pay_in hts hG, List.mem_cons_self⟩, hts _ h1, hts _ h2, h3, fun sig h => by rw [h] at h4; exact (Option.some.inj h4).symm, va_Nw.use rfl (hl s C.2.2.2.2.2.2.2.2.2.1)⟩, hts _ hm.2, trivial⟩ ⟨q_fits, fun U hU hW => ⟨rfl, q_pre C hP hD hS U hU hW⟩⟩ rfl (by rw [List.length_map]; exact hn) hL.1 (by simp [List.map_append, List.map_reverse]) (lv_room (by rw [q_cat]; exact hcat)) hd ⟨Nat.zero_le _, Nat.zero_le _⟩) kk
end QR
end
section
theorem qW_l (ps : List Nat) {ws : List Cond} (h : ws = ps.filterMap (fun i => tables_1[i]?)) (hg : ws.all goodWord = true) : ∀ z ∈ ws, z ∈ qW := by
  intro z hz
  have h1 := List.all_eq_true.mp hg z hz
  rw [h] at hz
  obtain ⟨i, -, hi⟩ := List.mem_filterMap.mp hz
  exact qW_t hi h1
theorem ck_0 : qCK 0 RX0 TX0 13 tyX0 := ⟨rfl, qW_l [146, 148, 150, 152, 154, 156, 158, 160, 162, 164, 166, 168, 170] (by decide +kernel) (by decide +kernel), tyX0_ok, nmX0⟩
theorem ck_1 : qCK 1 RX1 TX1 3 tyX1 := ⟨rfl, qW_l [183, 185, 187] (by decide +kernel) (by decide +kernel), tyX1_ok, nmX1⟩
theorem ck_2 : qCK 2 RX2 TX2 2 tyX2 := ⟨rfl, qW_l [199, 201] (by decide +kernel) (by decide +kernel), tyX2_ok, nmX2⟩
theorem ck_3 : qCK 3 RX3 TX3 8 tyX3 := ⟨rfl, qW_l [45, 47, 49, 51, 53, 55, 57, 59] (by decide +kernel) (by decide +kernel), tyX3_ok, nmX3⟩
theorem ck_4 : qCK 4 RX4 TX4 3 tyX4 := ⟨rfl, qW_l [67, 69, 71] (by decide +kernel) (by decide +kernel), tyX4_ok, nmX4⟩
theorem ck_5 : qCK 5 RX5 TX5 6 tyX5 := ⟨rfl, qW_l [111, 113, 115, 117, 119, 121] (by decide +kernel) (by decide +kernel), tyX5_ok, nmX5⟩
theorem ck_6 : qCK 6 RX6 TX6 5 tyX6 := ⟨rfl, qW_l [87, 89, 91, 93, 95] (by decide +kernel) (by decide +kernel), tyX6_ok, nmX6⟩
theorem ck_7 : qCK 7 RX7 TX7 7 tyX7 := ⟨rfl, qW_l [363, 365, 367, 369, 371, 373, 375] (by decide +kernel) (by decide +kernel), tyX7_ok, nmX7⟩
theorem ck_8 : qCK 8 RX8 TX8 31 tyX8 := ⟨rfl, qW_l [853, 855, 857, 859, 861, 863, 865, 867, 869, 871, 873, 875, 877, 879, 881, 883, 885, 887, 889, 891, 893, 895, 897, 899, 901, 903, 905, 907, 909, 911, 913] (by decide +kernel) (by decide +kernel), tyX8_ok, nmX8⟩
def mX0_refresh : qMT := (yX0_refresh, cX0_refresh, 3, none, 4, 104)
theorem mv_X0_refresh : qMV mX0_refresh 0 := ⟨⟨qW_t (i := 646) (by decide +kernel) rfl, qW_t (i := 6) (by decide +kernel) rfl, ⟨by decide +kernel, by decide +kernel⟩, by decide +kernel⟩, qW_t (i := 644) (by decide +kernel) rfl, qW_t (i := 645) (by decide +kernel) rfl⟩
def mX0_votesCast : qMT := (yX0_votesCast, cX0_votesCast, 3, (some .int), 0, 0)
theorem mv_X0_votesCast : qMV mX0_votesCast 2 := ⟨⟨qW_t (i := 709) (by decide +kernel) rfl, qW_t (i := 6) (by decide +kernel) rfl, ⟨by decide +kernel, by decide +kernel⟩, by decide +kernel⟩, qW_t (i := 707) (by decide +kernel) rfl, qW_t (i := 708) (by decide +kernel) rfl⟩
def mX0_length : qMT := (yX0_length, cX0_length, 1, (some .int), 0, 0)
theorem mv_X0_length : qMV mX0_length 0 := ⟨⟨qW_t (i := 717) (by decide +kernel) rfl, qW_t (i := 6) (by decide +kernel) rfl, ⟨by decide +kernel, by decide +kernel⟩, by decide +kernel⟩, qW_t (i := 715) (by decide +kernel) rfl, qW_t (i := 716) (by decide +kernel) rfl⟩
def mX0_property : qMT := (yX0_property, cX0_property, 3, (some .int), 0, 0)
theorem mv_X0_property : qMV mX0_property 2 := ⟨⟨qW_t (i := 721) (by decide +kernel) rfl, qW_t (i := 6) (by decide +kernel) rfl, ⟨by decide +kernel, by decide +kernel⟩, by decide +kernel⟩, qW_t (i := 719) (by decide +kernel) rfl, qW_t (i := 720) (by decide +kernel) rfl⟩
def mX0_clear : qMT := (yX0_clear, cX0_clear, 3, none, 0, 0)
theorem mv_X0_clear : qMV mX0_clear 0 := ⟨⟨qW_t (i := 654) (by decide +kernel) rfl, qW_t (i := 6) (by decide +kernel) rfl, ⟨by decide +kernel, by decide +kernel⟩, by decide +kernel⟩, qW_t (i := 653) (by decide +kernel) rfl, qW_p (i := 17) (by decide +kernel) rfl⟩
def mX0_addPair : qMT := (yX0_addPair, cX0_addPair, 5, none, 3, 80)
theorem mv_X0_addPair : qMV mX0_addPair 2 := ⟨⟨qW_t (i := 660) (by decide +kernel) rfl, qW_t (i := 6) (by decide +kernel) rfl, ⟨by decide +kernel, by decide +kernel⟩, by decide +kernel⟩, qW_t (i := 659) (by decide +kernel) rfl, qW_p (i := 18) (by decide +kernel) rfl⟩
def mX0_findCulprit : qMT := (yX0_findCulprit, cX0_findCulprit, 5, (some .boolean), 3, 75)
theorem mv_X0_findCulprit : qMV mX0_findCulprit 0 := ⟨⟨qW_t (i := 678) (by decide +kernel) rfl, qW_t (i := 6) (by decide +kernel) rfl, ⟨by decide +kernel, by decide +kernel⟩, by decide +kernel⟩, qW_t (i := 677) (by decide +kernel) rfl, qW_p (i := 19) (by decide +kernel) rfl⟩
def mX0_size : qMT := (yX0_size, cX0_size, 7, (some .int), 2, 49)
theorem mv_X0_size : qMV mX0_size 2 := ⟨⟨qW_t (i := 683) (by decide +kernel) rfl, qW_t (i := 6) (by decide +kernel) rfl, ⟨by decide +kernel, by decide +kernel⟩, by decide +kernel⟩, qW_t (i := 682) (by decide +kernel) rfl, qW_p (i := 20) (by decide +kernel) rfl⟩
def mX0_isOf : qMT := (yX0_isOf, cX0_isOf, 3, (some .boolean), 0, 0)
theorem mv_X0_isOf : qMV mX0_isOf 2 := ⟨⟨qW_t (i := 687) (by decide +kernel) rfl, qW_t (i := 6) (by decide +kernel) rfl, ⟨by decide +kernel, by decide +kernel⟩, by decide +kernel⟩, qW_t (i := 686) (by decide +kernel) rfl, qW_p (i := 21) (by decide +kernel) rfl⟩
def mX0_strikeVotes : qMT := (yX0_strikeVotes, cX0_strikeVotes, 8, none, 1, 22)
theorem mv_X0_strikeVotes : qMV mX0_strikeVotes 2 := ⟨⟨qW_t (i := 699) (by decide +kernel) rfl, qW_t (i := 6) (by decide +kernel) rfl, ⟨by decide +kernel, by decide +kernel⟩, by decide +kernel⟩, qW_t (i := 698) (by decide +kernel) rfl, qW_p (i := 22) (by decide +kernel) rfl⟩
def mX1_clear : qMT := (yX1_clear, cX1_clear, 1, none, 0, 0)
theorem mv_X1_clear : qMV mX1_clear 0 := ⟨⟨qW_t (i := 351) (by decide +kernel) rfl, qW_t (i := 7) (by decide +kernel) rfl, ⟨by decide +kernel, by decide +kernel⟩, by decide +kernel⟩, qW_t (i := 349) (by decide +kernel) rfl, qW_t (i := 350) (by decide +kernel) rfl⟩
def mX1_length : qMT := (yX1_length, cX1_length, 1, (some .int), 0, 0)
theorem mv_X1_length : qMV mX1_length 0 := ⟨⟨qW_t (i := 474) (by decide +kernel) rfl, qW_t (i := 7) (by decide +kernel) rfl, ⟨by decide +kernel, by decide +kernel⟩, by decide +kernel⟩, qW_t (i := 472) (by decide +kernel) rfl, qW_t (i := 473) (by decide +kernel) rfl⟩
def mX1_add : qMT := (yX1_add, cX1_add, 6, none, 1, 21)
theorem mv_X1_add : qMV mX1_add 4 := ⟨⟨qW_t (i := 434) (by decide +kernel) rfl, qW_t (i := 7) (by decide +kernel) rfl, ⟨by decide +kernel, by decide +kernel⟩, by decide +kernel⟩, qW_t (i := 432) (by decide +kernel) rfl, qW_t (i := 433) (by decide +kernel) rfl⟩
def mX1_slot : qMT := (yX1_slot, cX1_slot, 2, (some .int), 0, 0)
theorem mv_X1_slot : qMV mX1_slot 1 := ⟨⟨qW_t (i := 438) (by decide +kernel) rfl, qW_t (i := 7) (by decide +kernel) rfl, ⟨by decide +kernel, by decide +kernel⟩, by decide +kernel⟩, qW_t (i := 437) (by decide +kernel) rfl, qW_p (i := 9) (by decide +kernel) rfl⟩
def mX1_latest : qMT := (yX1_latest, cX1_latest, 2, (some .int), 1, 21)
theorem mv_X1_latest : qMV mX1_latest 1 := ⟨⟨qW_t (i := 478) (by decide +kernel) rfl, qW_t (i := 7) (by decide +kernel) rfl, ⟨by decide +kernel, by decide +kernel⟩, by decide +kernel⟩, qW_t (i := 476) (by decide +kernel) rfl, qW_t (i := 477) (by decide +kernel) rfl⟩
def mX1_dropLatest : qMT := (yX1_dropLatest, cX1_dropLatest, 1, none, 0, 0)
theorem mv_X1_dropLatest : qMV mX1_dropLatest 0 := ⟨⟨qW_t (i := 495) (by decide +kernel) rfl, qW_t (i := 7) (by decide +kernel) rfl, ⟨by decide +kernel, by decide +kernel⟩, by decide +kernel⟩, qW_t (i := 493) (by decide +kernel) rfl, qW_t (i := 494) (by decide +kernel) rfl⟩
def mX2_clear : qMT := (yX2_clear, cX2_clear, 1, none, 0, 0)
theorem mv_X2_clear : qMV mX2_clear 0 := ⟨⟨qW_t (i := 347) (by decide +kernel) rfl, qW_t (i := 8) (by decide +kernel) rfl, ⟨by decide +kernel, by decide +kernel⟩, by decide +kernel⟩, qW_t (i := 345) (by decide +kernel) rfl, qW_t (i := 346) (by decide +kernel) rfl⟩
def mX2_length : qMT := (yX2_length, cX2_length, 1, (some .int), 0, 0)
theorem mv_X2_length : qMV mX2_length 0 := ⟨⟨qW_t (i := 747) (by decide +kernel) rfl, qW_t (i := 8) (by decide +kernel) rfl, ⟨by decide +kernel, by decide +kernel⟩, by decide +kernel⟩, qW_t (i := 745) (by decide +kernel) rfl, qW_t (i := 746) (by decide +kernel) rfl⟩
def mX2_isFull : qMT := (yX2_isFull, cX2_isFull, 1, (some .boolean), 0, 0)
theorem mv_X2_isFull : qMV mX2_isFull 0 := ⟨⟨qW_t (i := 733) (by decide +kernel) rfl, qW_t (i := 8) (by decide +kernel) rfl, ⟨by decide +kernel, by decide +kernel⟩, by decide +kernel⟩, qW_t (i := 731) (by decide +kernel) rfl, qW_t (i := 732) (by decide +kernel) rfl⟩
def mX2_add : qMT := (yX2_add, cX2_add, 4, none, 1, 20)
theorem mv_X2_add : qMV mX2_add 3 := ⟨⟨qW_t (i := 742) (by decide +kernel) rfl, qW_t (i := 8) (by decide +kernel) rfl, ⟨by decide +kernel, by decide +kernel⟩, by decide +kernel⟩, qW_t (i := 740) (by decide +kernel) rfl, qW_t (i := 741) (by decide +kernel) rfl⟩
def mX2_dropLast : qMT := (yX2_dropLast, cX2_dropLast, 1, none, 0, 0)
theorem mv_X2_dropLast : qMV mX2_dropLast 0 := ⟨⟨qW_t (i := 491) (by decide +kernel) rfl, qW_t (i := 8) (by decide +kernel) rfl, ⟨by decide +kernel, by decide +kernel⟩, by decide +kernel⟩, qW_t (i := 489) (by decide +kernel) rfl, qW_t (i := 490) (by decide +kernel) rfl⟩
def mX2_property : qMT := (yX2_property, cX2_property, 3, (some .int), 0, 0)
theorem mv_X2_property : qMV mX2_property 2 := ⟨⟨qW_t (i := 759) (by decide +kernel) rfl, qW_t (i := 8) (by decide +kernel) rfl, ⟨by decide +kernel, by decide +kernel⟩, by decide +kernel⟩, qW_t (i := 757) (by decide +kernel) rfl, qW_t (i := 758) (by decide +kernel) rfl⟩
def mX3_startAfresh : qMT := (yX3_startAfresh, cX3_startAfresh, 2, none, 0, 0)
theorem mv_X3_startAfresh : qMV mX3_startAfresh 0 := ⟨⟨qW_t (i := 268) (by decide +kernel) rfl, qW_t (i := 3) (by decide +kernel) rfl, ⟨by decide +kernel, by decide +kernel⟩, by decide +kernel⟩, qW_t (i := 266) (by decide +kernel) rfl, qW_t (i := 267) (by decide +kernel) rfl⟩
def mX3_copyFrom : qMT := (yX3_copyFrom, cX3_copyFrom, 4, none, 0, 0)
theorem mv_X3_copyFrom : qMV mX3_copyFrom 1 := ⟨⟨qW_t (i := 343) (by decide +kernel) rfl, qW_t (i := 3) (by decide +kernel) rfl, ⟨by decide +kernel, by decide +kernel⟩, by decide +kernel⟩, qW_t (i := 341) (by decide +kernel) rfl, qW_t (i := 342) (by decide +kernel) rfl⟩
def mX3_setYears : qMT := (yX3_setYears, cX3_setYears, 2, none, 0, 0)
theorem mv_X3_setYears : qMV mX3_setYears 1 := ⟨⟨qW_t (i := 290) (by decide +kernel) rfl, qW_t (i := 3) (by decide +kernel) rfl, ⟨by decide +kernel, by decide +kernel⟩, by decide +kernel⟩, qW_t (i := 288) (by decide +kernel) rfl, qW_t (i := 289) (by decide +kernel) rfl⟩
def mX3_addStation : qMT := (yX3_addStation, cX3_addStation, 3, (some .boolean), 0, 0)
theorem mv_X3_addStation : qMV mX3_addStation 2 := ⟨⟨qW_t (i := 302) (by decide +kernel) rfl, qW_t (i := 3) (by decide +kernel) rfl, ⟨by decide +kernel, by decide +kernel⟩, by decide +kernel⟩, qW_t (i := 300) (by decide +kernel) rfl, qW_t (i := 301) (by decide +kernel) rfl⟩
def mX3_version : qMT := (yX3_version, cX3_version, 1, (some .int), 0, 0)
theorem mv_X3_version : qMV mX3_version 0 := ⟨⟨qW_t (i := 650) (by decide +kernel) rfl, qW_t (i := 3) (by decide +kernel) rfl, ⟨by decide +kernel, by decide +kernel⟩, by decide +kernel⟩, qW_t (i := 648) (by decide +kernel) rfl, qW_t (i := 649) (by decide +kernel) rfl⟩
def mX3_years : qMT := (yX3_years, cX3_years, 1, (some .int), 0, 0)
theorem mv_X3_years : qMV mX3_years 0 := ⟨⟨qW_t (i := 294) (by decide +kernel) rfl, qW_t (i := 3) (by decide +kernel) rfl, ⟨by decide +kernel, by decide +kernel⟩, by decide +kernel⟩, qW_t (i := 292) (by decide +kernel) rfl, qW_t (i := 293) (by decide +kernel) rfl⟩
def mX3_stations : qMT := (yX3_stations, cX3_stations, 1, (some .int), 0, 0)
theorem mv_X3_stations : qMV mX3_stations 0 := ⟨⟨qW_t (i := 306) (by decide +kernel) rfl, qW_t (i := 3) (by decide +kernel) rfl, ⟨by decide +kernel, by decide +kernel⟩, by decide +kernel⟩, qW_t (i := 304) (by decide +kernel) rfl, qW_t (i := 305) (by decide +kernel) rfl⟩
def mX3_hasStation : qMT := (yX3_hasStation, cX3_hasStation, 2, (some .boolean), 0, 0)
theorem mv_X3_hasStation : qMV mX3_hasStation 1 := ⟨⟨qW_t (i := 410) (by decide +kernel) rfl, qW_t (i := 3) (by decide +kernel) rfl, ⟨by decide +kernel, by decide +kernel⟩, by decide +kernel⟩, qW_t (i := 408) (by decide +kernel) rfl, qW_t (i := 409) (by decide +kernel) rfl⟩
def mX3_knows : qMT := (yX3_knows, cX3_knows, 3, (some .boolean), 1, 21)
theorem mv_X3_knows : qMV mX3_knows 2 := ⟨⟨qW_t (i := 406) (by decide +kernel) rfl, qW_t (i := 3) (by decide +kernel) rfl, ⟨by decide +kernel, by decide +kernel⟩, by decide +kernel⟩, qW_t (i := 404) (by decide +kernel) rfl, qW_t (i := 405) (by decide +kernel) rfl⟩
def mX3_has : qMT := (yX3_has, cX3_has, 3, (some .boolean), 0, 0)
theorem mv_X3_has : qMV mX3_has 2 := ⟨⟨qW_t (i := 486) (by decide +kernel) rfl, qW_t (i := 3) (by decide +kernel) rfl, ⟨by decide +kernel, by decide +kernel⟩, by decide +kernel⟩, qW_t (i := 484) (by decide +kernel) rfl, qW_t (i := 485) (by decide +kernel) rfl⟩
def mX3_at : qMT := (yX3_at, cX3_at, 3, (some .int), 0, 0)
theorem mv_X3_at : qMV mX3_at 2 := ⟨⟨qW_t (i := 414) (by decide +kernel) rfl, qW_t (i := 3) (by decide +kernel) rfl, ⟨by decide +kernel, by decide +kernel⟩, by decide +kernel⟩, qW_t (i := 412) (by decide +kernel) rfl, qW_t (i := 413) (by decide +kernel) rfl⟩
def mX3_put : qMT := (yX3_put, cX3_put, 4, none, 0, 0)
theorem mv_X3_put : qMV mX3_put 3 := ⟨⟨qW_t (i := 311) (by decide +kernel) rfl, qW_t (i := 3) (by decide +kernel) rfl, ⟨by decide +kernel, by decide +kernel⟩, by decide +kernel⟩, qW_t (i := 309) (by decide +kernel) rfl, qW_t (i := 310) (by decide +kernel) rfl⟩
def mX3_breakPenalty : qMT := (yX3_breakPenalty, cX3_breakPenalty, 1, (some .int), 0, 0)
theorem mv_X3_breakPenalty : qMV mX3_breakPenalty 0 := ⟨⟨qW_t (i := 455) (by decide +kernel) rfl, qW_t (i := 3) (by decide +kernel) rfl, ⟨by decide +kernel, by decide +kernel⟩, by decide +kernel⟩, qW_t (i := 453) (by decide +kernel) rfl, qW_t (i := 454) (by decide +kernel) rfl⟩
def mX3_setBreakPenalty : qMT := (yX3_setBreakPenalty, cX3_setBreakPenalty, 2, none, 0, 0)
theorem mv_X3_setBreakPenalty : qMV mX3_setBreakPenalty 1 := ⟨⟨qW_t (i := 319) (by decide +kernel) rfl, qW_t (i := 3) (by decide +kernel) rfl, ⟨by decide +kernel, by decide +kernel⟩, by decide +kernel⟩, qW_t (i := 317) (by decide +kernel) rfl, qW_t (i := 318) (by decide +kernel) rfl⟩
def mX3_ruleOf : qMT := (yX3_ruleOf, cX3_ruleOf, 2, (some .int), 0, 0)
theorem mv_X3_ruleOf : qMV mX3_ruleOf 1 := ⟨⟨qW_t (i := 465) (by decide +kernel) rfl, qW_t (i := 3) (by decide +kernel) rfl, ⟨by decide +kernel, by decide +kernel⟩, by decide +kernel⟩, qW_t (i := 463) (by decide +kernel) rfl, qW_t (i := 464) (by decide +kernel) rfl⟩
def mX3_setRule : qMT := (yX3_setRule, cX3_setRule, 3, none, 0, 0)
theorem mv_X3_setRule : qMV mX3_setRule 2 := ⟨⟨qW_t (i := 334) (by decide +kernel) rfl, qW_t (i := 3) (by decide +kernel) rfl, ⟨by decide +kernel, by decide +kernel⟩, by decide +kernel⟩, qW_t (i := 332) (by decide +kernel) rfl, qW_t (i := 333) (by decide +kernel) rfl⟩
def mX3_canShiftEarlier : qMT := (yX3_canShiftEarlier, cX3_canShiftEarlier, 5, (some .boolean), 1, 22)
theorem mv_X3_canShiftEarlier : qMV mX3_canShiftEarlier 3 := ⟨⟨qW_t (i := 737) (by decide +kernel) rfl, qW_t (i := 3) (by decide +kernel) rfl, ⟨by decide +kernel, by decide +kernel⟩, by decide +kernel⟩, qW_t (i := 735) (by decide +kernel) rfl, qW_t (i := 736) (by decide +kernel) rfl⟩
def mX3_shiftEarlier : qMT := (yX3_shiftEarlier, cX3_shiftEarlier, 5, none, 1, 22)
theorem mv_X3_shiftEarlier : qMV mX3_shiftEarlier 3 := ⟨⟨qW_t (i := 482) (by decide +kernel) rfl, qW_t (i := 3) (by decide +kernel) rfl, ⟨by decide +kernel, by decide +kernel⟩, by decide +kernel⟩, qW_t (i := 480) (by decide +kernel) rfl, qW_t (i := 481) (by decide +kernel) rfl⟩
def mX3_rank : qMT := (yX3_rank, cX3_rank, 7, (some .int), 1, 24)
theorem mv_X3_rank : qMV mX3_rank 2 := ⟨⟨qW_t (i := 515) (by decide +kernel) rfl, qW_t (i := 3) (by decide +kernel) rfl, ⟨by decide +kernel, by decide +kernel⟩, by decide +kernel⟩, qW_t (i := 513) (by decide +kernel) rfl, qW_t (i := 514) (by decide +kernel) rfl⟩
def mX3_squaredDistance : qMT := (yX3_squaredDistance, cX3_squaredDistance, 5, (some .int), 0, 0)
theorem mv_X3_squaredDistance : qMV mX3_squaredDistance 2 := ⟨⟨qW_t (i := 519) (by decide +kernel) rfl, qW_t (i := 3) (by decide +kernel) rfl, ⟨by decide +kernel, by decide +kernel⟩, by decide +kernel⟩, qW_t (i := 518) (by decide +kernel) rfl, qW_p (i := 10) (by decide +kernel) rfl⟩
def mX3_arePair : qMT := (yX3_arePair, cX3_arePair, 3, (some .boolean), 2, 50)
theorem mv_X3_arePair : qMV mX3_arePair 2 := ⟨⟨qW_t (i := 531) (by decide +kernel) rfl, qW_t (i := 3) (by decide +kernel) rfl, ⟨by decide +kernel, by decide +kernel⟩, by decide +kernel⟩, qW_t (i := 529) (by decide +kernel) rfl, qW_t (i := 530) (by decide +kernel) rfl⟩
def mX3_countPairs : qMT := (yX3_countPairs, cX3_countPairs, 4, (some .int), 3, 72)
theorem mv_X3_countPairs : qMV mX3_countPairs 0 := ⟨⟨qW_t (i := 789) (by decide +kernel) rfl, qW_t (i := 3) (by decide +kernel) rfl, ⟨by decide +kernel, by decide +kernel⟩, by decide +kernel⟩, qW_t (i := 787) (by decide +kernel) rfl, qW_t (i := 788) (by decide +kernel) rfl⟩
def mX3_countMissing : qMT := (yX3_countMissing, cX3_countMissing, 4, (some .int), 1, 22)
theorem mv_X3_countMissing : qMV mX3_countMissing 0 := ⟨⟨qW_t (i := 794) (by decide +kernel) rfl, qW_t (i := 3) (by decide +kernel) rfl, ⟨by decide +kernel, by decide +kernel⟩, by decide +kernel⟩, qW_t (i := 792) (by decide +kernel) rfl, qW_t (i := 793) (by decide +kernel) rfl⟩
def mX4_append : qMT := (yX4_append, cX4_append, 2, (some .boolean), 0, 0)
theorem mv_X4_append : qMV mX4_append 1 := ⟨⟨qW_t (i := 256) (by decide +kernel) rfl, qW_t (i := 2) (by decide +kernel) rfl, ⟨by decide +kernel, by decide +kernel⟩, by decide +kernel⟩, qW_t (i := 254) (by decide +kernel) rfl, qW_t (i := 255) (by decide +kernel) rfl⟩
def mX4_clear : qMT := (yX4_clear, cX4_clear, 1, none, 0, 0)
theorem mv_X4_clear : qMV mX4_clear 0 := ⟨⟨qW_t (i := 355) (by decide +kernel) rfl, qW_t (i := 2) (by decide +kernel) rfl, ⟨by decide +kernel, by decide +kernel⟩, by decide +kernel⟩, qW_t (i := 353) (by decide +kernel) rfl, qW_t (i := 354) (by decide +kernel) rfl⟩
def mX4_length : qMT := (yX4_length, cX4_length, 1, (some .int), 0, 0)
theorem mv_X4_length : qMV mX4_length 0 := ⟨⟨qW_t (i := 386) (by decide +kernel) rfl, qW_t (i := 2) (by decide +kernel) rfl, ⟨by decide +kernel, by decide +kernel⟩, by decide +kernel⟩, qW_t (i := 384) (by decide +kernel) rfl, qW_t (i := 385) (by decide +kernel) rfl⟩
def mX4_draft : qMT := (yX4_draft, cX4_draft, 1, (some (.object "ShiftMender$Records")), 0, 0)
theorem mv_X4_draft : qMV mX4_draft 0 := ⟨⟨qW_t (i := 338) (by decide +kernel) rfl, qW_t (i := 2) (by decide +kernel) rfl, ⟨by decide +kernel, by decide +kernel⟩, by decide +kernel⟩, qW_t (i := 336) (by decide +kernel) rfl, qW_t (i := 337) (by decide +kernel) rfl⟩
def mX4_read : qMT := (yX4_read, cX4_read, 3, (some .int), 3, 71)
theorem mv_X4_read : qMV mX4_read 0 := ⟨⟨qW_t (i := 264) (by decide +kernel) rfl, qW_t (i := 2) (by decide +kernel) rfl, ⟨by decide +kernel, by decide +kernel⟩, by decide +kernel⟩, qW_t (i := 262) (by decide +kernel) rfl, qW_t (i := 263) (by decide +kernel) rfl⟩
def mX4_readItem : qMT := (yX4_readItem, cX4_readItem, 3, (some .int), 2, 49)
theorem mv_X4_readItem : qMV mX4_readItem 1 := ⟨⟨qW_t (i := 274) (by decide +kernel) rfl, qW_t (i := 2) (by decide +kernel) rfl, ⟨by decide +kernel, by decide +kernel⟩, by decide +kernel⟩, qW_t (i := 273) (by decide +kernel) rfl, qW_p (i := 1) (by decide +kernel) rfl⟩
def mX4_readYears : qMT := (yX4_readYears, cX4_readYears, 3, (some .int), 1, 22)
theorem mv_X4_readYears : qMV mX4_readYears 1 := ⟨⟨qW_t (i := 278) (by decide +kernel) rfl, qW_t (i := 2) (by decide +kernel) rfl, ⟨by decide +kernel, by decide +kernel⟩, by decide +kernel⟩, qW_t (i := 277) (by decide +kernel) rfl, qW_p (i := 2) (by decide +kernel) rfl⟩
def mX4_readStation : qMT := (yX4_readStation, cX4_readStation, 7, (some .int), 1, 23)
theorem mv_X4_readStation : qMV mX4_readStation 1 := ⟨⟨qW_t (i := 298) (by decide +kernel) rfl, qW_t (i := 2) (by decide +kernel) rfl, ⟨by decide +kernel, by decide +kernel⟩, by decide +kernel⟩, qW_t (i := 297) (by decide +kernel) rfl, qW_p (i := 5) (by decide +kernel) rfl⟩
def mX4_readPenalty : qMT := (yX4_readPenalty, cX4_readPenalty, 4, (some .int), 1, 22)
theorem mv_X4_readPenalty : qMV mX4_readPenalty 1 := ⟨⟨qW_t (i := 315) (by decide +kernel) rfl, qW_t (i := 2) (by decide +kernel) rfl, ⟨by decide +kernel, by decide +kernel⟩, by decide +kernel⟩, qW_t (i := 314) (by decide +kernel) rfl, qW_p (i := 6) (by decide +kernel) rfl⟩
def mX4_readRules : qMT := (yX4_readRules, cX4_readRules, 4, (some .int), 1, 22)
theorem mv_X4_readRules : qMV mX4_readRules 1 := ⟨⟨qW_t (i := 323) (by decide +kernel) rfl, qW_t (i := 2) (by decide +kernel) rfl, ⟨by decide +kernel, by decide +kernel⟩, by decide +kernel⟩, qW_t (i := 322) (by decide +kernel) rfl, qW_p (i := 7) (by decide +kernel) rfl⟩
def mX4_endsAt : qMT := (yX4_endsAt, cX4_endsAt, 2, (some .boolean), 0, 0)
theorem mv_X4_endsAt : qMV mX4_endsAt 1 := ⟨⟨qW_t (i := 286) (by decide +kernel) rfl, qW_t (i := 2) (by decide +kernel) rfl, ⟨by decide +kernel, by decide +kernel⟩, by decide +kernel⟩, qW_t (i := 285) (by decide +kernel) rfl, qW_p (i := 4) (by decide +kernel) rfl⟩
def mX4_signAt : qMT := (yX4_signAt, cX4_signAt, 3, (some .int), 0, 0)
theorem mv_X4_signAt : qMV mX4_signAt 1 := ⟨⟨qW_t (i := 282) (by decide +kernel) rfl, qW_t (i := 2) (by decide +kernel) rfl, ⟨by decide +kernel, by decide +kernel⟩, by decide +kernel⟩, qW_t (i := 281) (by decide +kernel) rfl, qW_p (i := 3) (by decide +kernel) rfl⟩
def mX5_fit : qMT := (yX5_fit, cX5_fit, 7, none, 2, 54)
theorem mv_X5_fit : qMV mX5_fit 2 := ⟨⟨qW_t (i := 585) (by decide +kernel) rfl, qW_t (i := 5) (by decide +kernel) rfl, ⟨by decide +kernel, by decide +kernel⟩, by decide +kernel⟩, qW_t (i := 583) (by decide +kernel) rfl, qW_t (i := 584) (by decide +kernel) rfl⟩
def mX5_fitFrom : qMT := (yX5_fitFrom, cX5_fitFrom, 10, none, 1, 25)
theorem mv_X5_fitFrom : qMV mX5_fitFrom 3 := ⟨⟨qW_t (i := 591) (by decide +kernel) rfl, qW_t (i := 5) (by decide +kernel) rfl, ⟨by decide +kernel, by decide +kernel⟩, by decide +kernel⟩, qW_t (i := 590) (by decide +kernel) rfl, qW_p (i := 14) (by decide +kernel) rfl⟩
def mX5_keepStarts : qMT := (yX5_keepStarts, cX5_keepStarts, 2, none, 0, 0)
theorem mv_X5_keepStarts : qMV mX5_keepStarts 0 := ⟨⟨qW_t (i := 596) (by decide +kernel) rfl, qW_t (i := 5) (by decide +kernel) rfl, ⟨by decide +kernel, by decide +kernel⟩, by decide +kernel⟩, qW_t (i := 595) (by decide +kernel) rfl, qW_p (i := 15) (by decide +kernel) rfl⟩
def mX5_breakCount : qMT := (yX5_breakCount, cX5_breakCount, 1, (some .int), 0, 0)
theorem mv_X5_breakCount : qMV mX5_breakCount 0 := ⟨⟨qW_t (i := 600) (by decide +kernel) rfl, qW_t (i := 5) (by decide +kernel) rfl, ⟨by decide +kernel, by decide +kernel⟩, by decide +kernel⟩, qW_t (i := 598) (by decide +kernel) rfl, qW_t (i := 599) (by decide +kernel) rfl⟩
def mX5_breakYear : qMT := (yX5_breakYear, cX5_breakYear, 2, (some .int), 1, 21)
theorem mv_X5_breakYear : qMV mX5_breakYear 1 := ⟨⟨qW_t (i := 604) (by decide +kernel) rfl, qW_t (i := 5) (by decide +kernel) rfl, ⟨by decide +kernel, by decide +kernel⟩, by decide +kernel⟩, qW_t (i := 602) (by decide +kernel) rfl, qW_t (i := 603) (by decide +kernel) rfl⟩
def mX5_scaledShift : qMT := (yX5_scaledShift, cX5_scaledShift, 2, (some .long), 1, 22)
theorem mv_X5_scaledShift : qMV mX5_scaledShift 1 := ⟨⟨qW_t (i := 670) (by decide +kernel) rfl, qW_t (i := 5) (by decide +kernel) rfl, ⟨by decide +kernel, by decide +kernel⟩, by decide +kernel⟩, qW_t (i := 668) (by decide +kernel) rfl, qW_t (i := 669) (by decide +kernel) rfl⟩
def mX5_scaledCost : qMT := (yX5_scaledCost, cX5_scaledCost, 1, (some .long), 0, 0)
theorem mv_X5_scaledCost : qMV mX5_scaledCost 0 := ⟨⟨qW_t (i := 613) (by decide +kernel) rfl, qW_t (i := 5) (by decide +kernel) rfl, ⟨by decide +kernel, by decide +kernel⟩, by decide +kernel⟩, qW_t (i := 611) (by decide +kernel) rfl, qW_t (i := 612) (by decide +kernel) rfl⟩
def mX5_scaledSpreads : qMT := (yX5_scaledSpreads, cX5_scaledSpreads, 5, (some .long), 2, 52)
theorem mv_X5_scaledSpreads : qMV mX5_scaledSpreads 2 := ⟨⟨qW_t (i := 621) (by decide +kernel) rfl, qW_t (i := 5) (by decide +kernel) rfl, ⟨by decide +kernel, by decide +kernel⟩, by decide +kernel⟩, qW_t (i := 619) (by decide +kernel) rfl, qW_t (i := 620) (by decide +kernel) rfl⟩
def mX5_addRun : qMT := (yX5_addRun, cX5_addRun, 8, none, 1, 25)
theorem mv_X5_addRun : qMV mX5_addRun 2 := ⟨⟨qW_t (i := 626) (by decide +kernel) rfl, qW_t (i := 5) (by decide +kernel) rfl, ⟨by decide +kernel, by decide +kernel⟩, by decide +kernel⟩, qW_t (i := 625) (by decide +kernel) rfl, qW_p (i := 16) (by decide +kernel) rfl⟩
def mX6_compare : qMT := (yX6_compare, cX6_compare, 5, none, 1, 22)
theorem mv_X6_compare : qMV mX6_compare 3 := ⟨⟨qW_t (i := 540) (by decide +kernel) rfl, qW_t (i := 4) (by decide +kernel) rfl, ⟨by decide +kernel, by decide +kernel⟩, by decide +kernel⟩, qW_t (i := 538) (by decide +kernel) rfl, qW_t (i := 539) (by decide +kernel) rfl⟩
def mX6_add : qMT := (yX6_add, cX6_add, 3, none, 0, 0)
theorem mv_X6_add : qMV mX6_add 2 := ⟨⟨qW_t (i := 547) (by decide +kernel) rfl, qW_t (i := 4) (by decide +kernel) rfl, ⟨by decide +kernel, by decide +kernel⟩, by decide +kernel⟩, qW_t (i := 546) (by decide +kernel) rfl, qW_p (i := 12) (by decide +kernel) rfl⟩
def mX6_length : qMT := (yX6_length, cX6_length, 1, (some .int), 0, 0)
theorem mv_X6_length : qMV mX6_length 0 := ⟨⟨qW_t (i := 551) (by decide +kernel) rfl, qW_t (i := 4) (by decide +kernel) rfl, ⟨by decide +kernel, by decide +kernel⟩, by decide +kernel⟩, qW_t (i := 549) (by decide +kernel) rfl, qW_t (i := 550) (by decide +kernel) rfl⟩
def mX6_entryAt : qMT := (yX6_entryAt, cX6_entryAt, 2, (some .int), 0, 0)
theorem mv_X6_entryAt : qMV mX6_entryAt 1 := ⟨⟨qW_t (i := 555) (by decide +kernel) rfl, qW_t (i := 4) (by decide +kernel) rfl, ⟨by decide +kernel, by decide +kernel⟩, by decide +kernel⟩, qW_t (i := 553) (by decide +kernel) rfl, qW_t (i := 554) (by decide +kernel) rfl⟩
def mX6_yearAt : qMT := (yX6_yearAt, cX6_yearAt, 2, (some .int), 0, 0)
theorem mv_X6_yearAt : qMV mX6_yearAt 1 := ⟨⟨qW_t (i := 563) (by decide +kernel) rfl, qW_t (i := 4) (by decide +kernel) rfl, ⟨by decide +kernel, by decide +kernel⟩, by decide +kernel⟩, qW_t (i := 561) (by decide +kernel) rfl, qW_t (i := 562) (by decide +kernel) rfl⟩
def mX6_scaledMean : qMT := (yX6_scaledMean, cX6_scaledMean, 3, (some .long), 0, 0)
theorem mv_X6_scaledMean : qMV mX6_scaledMean 2 := ⟨⟨qW_t (i := 674) (by decide +kernel) rfl, qW_t (i := 4) (by decide +kernel) rfl, ⟨by decide +kernel, by decide +kernel⟩, by decide +kernel⟩, qW_t (i := 672) (by decide +kernel) rfl, qW_t (i := 673) (by decide +kernel) rfl⟩
def mX6_scaledSpread : qMT := (yX6_scaledSpread, cX6_scaledSpread, 6, (some .long), 0, 0)
theorem mv_X6_scaledSpread : qMV mX6_scaledSpread 2 := ⟨⟨qW_t (i := 572) (by decide +kernel) rfl, qW_t (i := 4) (by decide +kernel) rfl, ⟨by decide +kernel, by decide +kernel⟩, by decide +kernel⟩, qW_t (i := 570) (by decide +kernel) rfl, qW_t (i := 571) (by decide +kernel) rfl⟩
def mX7_write : qMT := (yX7_write, cX7_write, 2, (some .int), 1, 21)
theorem mv_X7_write : qMV mX7_write 1 := ⟨⟨qW_t (i := 382) (by decide +kernel) rfl, qW_t (i := 1) (by decide +kernel) rfl, ⟨by decide +kernel, by decide +kernel⟩, by decide +kernel⟩, qW_t (i := 380) (by decide +kernel) rfl, qW_t (i := 381) (by decide +kernel) rfl⟩
def mX7_wipe : qMT := (yX7_wipe, cX7_wipe, 2, (some .int), 1, 20)
theorem mv_X7_wipe : qMV mX7_wipe 0 := ⟨⟨qW_t (i := 390) (by decide +kernel) rfl, qW_t (i := 1) (by decide +kernel) rfl, ⟨by decide +kernel, by decide +kernel⟩, by decide +kernel⟩, qW_t (i := 388) (by decide +kernel) rfl, qW_t (i := 389) (by decide +kernel) rfl⟩
def mX7_fault : qMT := (yX7_fault, cX7_fault, 1, (some .int), 4, 93)
theorem mv_X7_fault : qMV mX7_fault 0 := ⟨⟨qW_t (i := 394) (by decide +kernel) rfl, qW_t (i := 1) (by decide +kernel) rfl, ⟨by decide +kernel, by decide +kernel⟩, by decide +kernel⟩, qW_t (i := 392) (by decide +kernel) rfl, qW_t (i := 393) (by decide +kernel) rfl⟩
def mX7_lay : qMT := (yX7_lay, cX7_lay, 1, (some .int), 5, 113)
theorem mv_X7_lay : qMV mX7_lay 0 := ⟨⟨qW_t (i := 398) (by decide +kernel) rfl, qW_t (i := 1) (by decide +kernel) rfl, ⟨by decide +kernel, by decide +kernel⟩, by decide +kernel⟩, qW_t (i := 396) (by decide +kernel) rfl, qW_t (i := 397) (by decide +kernel) rfl⟩
def mX7_layScript : qMT := (yX7_layScript, cX7_layScript, 1, (some .int), 4, 93)
theorem mv_X7_layScript : qMV mX7_layScript 0 := ⟨⟨qW_t (i := 260) (by decide +kernel) rfl, qW_t (i := 1) (by decide +kernel) rfl, ⟨by decide +kernel, by decide +kernel⟩, by decide +kernel⟩, qW_t (i := 259) (by decide +kernel) rfl, qW_p (i := 0) (by decide +kernel) rfl⟩
def mX7_value : qMT := (yX7_value, cX7_value, 3, (some .int), 2, 43)
theorem mv_X7_value : qMV mX7_value 2 := ⟨⟨qW_t (i := 402) (by decide +kernel) rfl, qW_t (i := 1) (by decide +kernel) rfl, ⟨by decide +kernel, by decide +kernel⟩, by decide +kernel⟩, qW_t (i := 400) (by decide +kernel) rfl, qW_t (i := 401) (by decide +kernel) rfl⟩
def mX7_shown : qMT := (yX7_shown, cX7_shown, 1, (some .int), 0, 0)
theorem mv_X7_shown : qMS mX7_shown 1 := ⟨⟨qW_t (i := 417) (by decide +kernel) rfl, qW_t (i := 1) (by decide +kernel) rfl, ⟨by decide +kernel, by decide +kernel⟩, by decide +kernel⟩, qW_t (i := 416) (by decide +kernel) rfl⟩
def mX7_isValue : qMT := (yX7_isValue, cX7_isValue, 1, (some .boolean), 0, 0)
theorem mv_X7_isValue : qMS mX7_isValue 1 := ⟨⟨qW_t (i := 426) (by decide +kernel) rfl, qW_t (i := 1) (by decide +kernel) rfl, ⟨by decide +kernel, by decide +kernel⟩, by decide +kernel⟩, qW_t (i := 425) (by decide +kernel) rfl⟩
def mX7_set : qMT := (yX7_set, cX7_set, 5, (some .int), 3, 70)
theorem mv_X7_set : qMV mX7_set 3 := ⟨⟨qW_t (i := 423) (by decide +kernel) rfl, qW_t (i := 1) (by decide +kernel) rfl, ⟨by decide +kernel, by decide +kernel⟩, by decide +kernel⟩, qW_t (i := 421) (by decide +kernel) rfl, qW_t (i := 422) (by decide +kernel) rfl⟩
def mX7_lose : qMT := (yX7_lose, cX7_lose, 4, (some .int), 3, 70)
theorem mv_X7_lose : qMV mX7_lose 2 := ⟨⟨qW_t (i := 443) (by decide +kernel) rfl, qW_t (i := 1) (by decide +kernel) rfl, ⟨by decide +kernel, by decide +kernel⟩, by decide +kernel⟩, qW_t (i := 441) (by decide +kernel) rfl, qW_t (i := 442) (by decide +kernel) rfl⟩
def mX7_changeValue : qMT := (yX7_changeValue, cX7_changeValue, 5, (some .boolean), 2, 46)
theorem mv_X7_changeValue : qMV mX7_changeValue 3 := ⟨⟨qW_t (i := 430) (by decide +kernel) rfl, qW_t (i := 1) (by decide +kernel) rfl, ⟨by decide +kernel, by decide +kernel⟩, by decide +kernel⟩, qW_t (i := 429) (by decide +kernel) rfl, qW_p (i := 8) (by decide +kernel) rfl⟩
def mX7_penalty : qMT := (yX7_penalty, cX7_penalty, 3, (some .int), 2, 46)
theorem mv_X7_penalty : qMV mX7_penalty 1 := ⟨⟨qW_t (i := 447) (by decide +kernel) rfl, qW_t (i := 1) (by decide +kernel) rfl, ⟨by decide +kernel, by decide +kernel⟩, by decide +kernel⟩, qW_t (i := 445) (by decide +kernel) rfl, qW_t (i := 446) (by decide +kernel) rfl⟩
def mX7_isPenalty : qMT := (yX7_isPenalty, cX7_isPenalty, 1, (some .boolean), 0, 0)
theorem mv_X7_isPenalty : qMS mX7_isPenalty 1 := ⟨⟨qW_t (i := 450) (by decide +kernel) rfl, qW_t (i := 1) (by decide +kernel) rfl, ⟨by decide +kernel, by decide +kernel⟩, by decide +kernel⟩, qW_t (i := 449) (by decide +kernel) rfl⟩
def mX7_rule : qMT := (yX7_rule, cX7_rule, 4, (some .int), 2, 46)
theorem mv_X7_rule : qMV mX7_rule 2 := ⟨⟨qW_t (i := 460) (by decide +kernel) rfl, qW_t (i := 1) (by decide +kernel) rfl, ⟨by decide +kernel, by decide +kernel⟩, by decide +kernel⟩, qW_t (i := 458) (by decide +kernel) rfl, qW_t (i := 459) (by decide +kernel) rfl⟩
def mX7_isRule : qMT := (yX7_isRule, cX7_isRule, 2, (some .boolean), 0, 0)
theorem mv_X7_isRule : qMS mX7_isRule 2 := ⟨⟨qW_t (i := 326) (by decide +kernel) rfl, qW_t (i := 1) (by decide +kernel) rfl, ⟨by decide +kernel, by decide +kernel⟩, by decide +kernel⟩, qW_t (i := 325) (by decide +kernel) rfl⟩
def mX7_undo : qMT := (yX7_undo, cX7_undo, 4, (some .int), 2, 46)
theorem mv_X7_undo : qMV mX7_undo 0 := ⟨⟨qW_t (i := 470) (by decide +kernel) rfl, qW_t (i := 1) (by decide +kernel) rfl, ⟨by decide +kernel, by decide +kernel⟩, by decide +kernel⟩, qW_t (i := 468) (by decide +kernel) rfl, qW_t (i := 469) (by decide +kernel) rfl⟩
def mX7_day : qMT := (yX7_day, cX7_day, 11, (some .int), 3, 70)
theorem mv_X7_day : qMV mX7_day 2 := ⟨⟨qW_t (i := 499) (by decide +kernel) rfl, qW_t (i := 1) (by decide +kernel) rfl, ⟨by decide +kernel, by decide +kernel⟩, by decide +kernel⟩, qW_t (i := 497) (by decide +kernel) rfl, qW_t (i := 498) (by decide +kernel) rfl⟩
def mX7_remainder : qMT := (yX7_remainder, cX7_remainder, 2, (some .int), 0, 0)
theorem mv_X7_remainder : qMS mX7_remainder 2 := ⟨⟨qW_t (i := 505) (by decide +kernel) rfl, qW_t (i := 1) (by decide +kernel) rfl, ⟨by decide +kernel, by decide +kernel⟩, by decide +kernel⟩, qW_t (i := 504) (by decide +kernel) rfl⟩
def mX7_nearest : qMT := (yX7_nearest, cX7_nearest, 4, (some .int), 2, 50)
theorem mv_X7_nearest : qMV mX7_nearest 2 := ⟨⟨qW_t (i := 510) (by decide +kernel) rfl, qW_t (i := 1) (by decide +kernel) rfl, ⟨by decide +kernel, by decide +kernel⟩, by decide +kernel⟩, qW_t (i := 508) (by decide +kernel) rfl, qW_t (i := 509) (by decide +kernel) rfl⟩
def mX7_pair : qMT := (yX7_pair, cX7_pair, 3, (some .int), 3, 72)
theorem mv_X7_pair : qMV mX7_pair 2 := ⟨⟨qW_t (i := 523) (by decide +kernel) rfl, qW_t (i := 1) (by decide +kernel) rfl, ⟨by decide +kernel, by decide +kernel⟩, by decide +kernel⟩, qW_t (i := 521) (by decide +kernel) rfl, qW_t (i := 522) (by decide +kernel) rfl⟩
def mX7_areTwoStations : qMT := (yX7_areTwoStations, cX7_areTwoStations, 3, (some .boolean), 1, 21)
theorem mv_X7_areTwoStations : qMV mX7_areTwoStations 2 := ⟨⟨qW_t (i := 527) (by decide +kernel) rfl, qW_t (i := 1) (by decide +kernel) rfl, ⟨by decide +kernel, by decide +kernel⟩, by decide +kernel⟩, qW_t (i := 526) (by decide +kernel) rfl, qW_p (i := 11) (by decide +kernel) rfl⟩
def mX7_entry : qMT := (yX7_entry, cX7_entry, 4, (some .int), 2, 46)
theorem mv_X7_entry : qMV mX7_entry 3 := ⟨⟨qW_t (i := 536) (by decide +kernel) rfl, qW_t (i := 1) (by decide +kernel) rfl, ⟨by decide +kernel, by decide +kernel⟩, by decide +kernel⟩, qW_t (i := 534) (by decide +kernel) rfl, qW_t (i := 535) (by decide +kernel) rfl⟩
def mX7_year : qMT := (yX7_year, cX7_year, 4, (some .int), 2, 46)
theorem mv_X7_year : qMV mX7_year 3 := ⟨⟨qW_t (i := 559) (by decide +kernel) rfl, qW_t (i := 1) (by decide +kernel) rfl, ⟨by decide +kernel, by decide +kernel⟩, by decide +kernel⟩, qW_t (i := 557) (by decide +kernel) rfl, qW_t (i := 558) (by decide +kernel) rfl⟩
def mX7_spread : qMT := (yX7_spread, cX7_spread, 5, (some .long), 2, 46)
theorem mv_X7_spread : qMV mX7_spread 4 := ⟨⟨qW_t (i := 567) (by decide +kernel) rfl, qW_t (i := 1) (by decide +kernel) rfl, ⟨by decide +kernel, by decide +kernel⟩, by decide +kernel⟩, qW_t (i := 565) (by decide +kernel) rfl, qW_t (i := 566) (by decide +kernel) rfl⟩
def mX7_split : qMT := (yX7_split, cX7_split, 4, (some .int), 4, 103)
theorem mv_X7_split : qMV mX7_split 3 := ⟨⟨qW_t (i := 577) (by decide +kernel) rfl, qW_t (i := 1) (by decide +kernel) rfl, ⟨by decide +kernel, by decide +kernel⟩, by decide +kernel⟩, qW_t (i := 575) (by decide +kernel) rfl, qW_t (i := 576) (by decide +kernel) rfl⟩
def mX7_segment : qMT := (yX7_segment, cX7_segment, 4, none, 3, 80)
theorem mv_X7_segment : qMV mX7_segment 3 := ⟨⟨qW_t (i := 581) (by decide +kernel) rfl, qW_t (i := 1) (by decide +kernel) rfl, ⟨by decide +kernel, by decide +kernel⟩, by decide +kernel⟩, qW_t (i := 580) (by decide +kernel) rfl, qW_p (i := 13) (by decide +kernel) rfl⟩
def mX7_cost : qMT := (yX7_cost, cX7_cost, 3, (some .long), 4, 103)
theorem mv_X7_cost : qMV mX7_cost 2 := ⟨⟨qW_t (i := 609) (by decide +kernel) rfl, qW_t (i := 1) (by decide +kernel) rfl, ⟨by decide +kernel, by decide +kernel⟩, by decide +kernel⟩, qW_t (i := 607) (by decide +kernel) rfl, qW_t (i := 608) (by decide +kernel) rfl⟩
def mX7_spreads : qMT := (yX7_spreads, cX7_spreads, 4, (some .long), 3, 76)
theorem mv_X7_spreads : qMV mX7_spreads 3 := ⟨⟨qW_t (i := 617) (by decide +kernel) rfl, qW_t (i := 1) (by decide +kernel) rfl, ⟨by decide +kernel, by decide +kernel⟩, by decide +kernel⟩, qW_t (i := 615) (by decide +kernel) rfl, qW_t (i := 616) (by decide +kernel) rfl⟩
def mX7_breaks : qMT := (yX7_breaks, cX7_breaks, 4, (some .int), 4, 103)
theorem mv_X7_breaks : qMV mX7_breaks 3 := ⟨⟨qW_t (i := 633) (by decide +kernel) rfl, qW_t (i := 1) (by decide +kernel) rfl, ⟨by decide +kernel, by decide +kernel⟩, by decide +kernel⟩, qW_t (i := 631) (by decide +kernel) rfl, qW_t (i := 632) (by decide +kernel) rfl⟩
def mX7_least : qMT := (yX7_least, cX7_least, 7, (some .int), 3, 80)
theorem mv_X7_least : qMV mX7_least 3 := ⟨⟨qW_t (i := 637) (by decide +kernel) rfl, qW_t (i := 1) (by decide +kernel) rfl, ⟨by decide +kernel, by decide +kernel⟩, by decide +kernel⟩, qW_t (i := 635) (by decide +kernel) rfl, qW_t (i := 636) (by decide +kernel) rfl⟩
def mX7_votes : qMT := (yX7_votes, cX7_votes, 3, (some .int), 5, 126)
theorem mv_X7_votes : qMV mX7_votes 2 := ⟨⟨qW_t (i := 642) (by decide +kernel) rfl, qW_t (i := 1) (by decide +kernel) rfl, ⟨by decide +kernel, by decide +kernel⟩, by decide +kernel⟩, qW_t (i := 640) (by decide +kernel) rfl, qW_t (i := 641) (by decide +kernel) rfl⟩
def mX7_culprit : qMT := (yX7_culprit, cX7_culprit, 3, (some .int), 5, 126)
theorem mv_X7_culprit : qMV mX7_culprit 2 := ⟨⟨qW_t (i := 713) (by decide +kernel) rfl, qW_t (i := 1) (by decide +kernel) rfl, ⟨by decide +kernel, by decide +kernel⟩, by decide +kernel⟩, qW_t (i := 711) (by decide +kernel) rfl, qW_t (i := 712) (by decide +kernel) rfl⟩
def mX7_mend : qMT := (yX7_mend, cX7_mend, 2, (some .int), 6, 150)
theorem mv_X7_mend : qMV mX7_mend 1 := ⟨⟨qW_t (i := 725) (by decide +kernel) rfl, qW_t (i := 1) (by decide +kernel) rfl, ⟨by decide +kernel, by decide +kernel⟩, by decide +kernel⟩, qW_t (i := 723) (by decide +kernel) rfl, qW_t (i := 724) (by decide +kernel) rfl⟩
def mX7_mendCulprit : qMT := (yX7_mendCulprit, cX7_mendCulprit, 5, (some .int), 5, 126)
theorem mv_X7_mendCulprit : qMV mX7_mendCulprit 1 := ⟨⟨qW_t (i := 729) (by decide +kernel) rfl, qW_t (i := 1) (by decide +kernel) rfl, ⟨by decide +kernel, by decide +kernel⟩, by decide +kernel⟩, qW_t (i := 728) (by decide +kernel) rfl, qW_p (i := 23) (by decide +kernel) rfl⟩
def mX7_mends : qMT := (yX7_mends, cX7_mends, 2, (some .int), 6, 150)
theorem mv_X7_mends : qMV mX7_mends 0 := ⟨⟨qW_t (i := 751) (by decide +kernel) rfl, qW_t (i := 1) (by decide +kernel) rfl, ⟨by decide +kernel, by decide +kernel⟩, by decide +kernel⟩, qW_t (i := 749) (by decide +kernel) rfl, qW_t (i := 750) (by decide +kernel) rfl⟩
def mX7_ledger : qMT := (yX7_ledger, cX7_ledger, 3, (some .int), 1, 22)
theorem mv_X7_ledger : qMV mX7_ledger 2 := ⟨⟨qW_t (i := 755) (by decide +kernel) rfl, qW_t (i := 1) (by decide +kernel) rfl, ⟨by decide +kernel, by decide +kernel⟩, by decide +kernel⟩, qW_t (i := 753) (by decide +kernel) rfl, qW_t (i := 754) (by decide +kernel) rfl⟩
def mX7_made : qMT := (yX7_made, cX7_made, 3, (some .int), 4, 98)
theorem mv_X7_made : qMV mX7_made 2 := ⟨⟨qW_t (i := 763) (by decide +kernel) rfl, qW_t (i := 1) (by decide +kernel) rfl, ⟨by decide +kernel, by decide +kernel⟩, by decide +kernel⟩, qW_t (i := 761) (by decide +kernel) rfl, qW_t (i := 762) (by decide +kernel) rfl⟩
def mX7_make : qMT := (yX7_make, cX7_make, 4, (some .int), 4, 98)
theorem mv_X7_make : qMV mX7_make 2 := ⟨⟨qW_t (i := 774) (by decide +kernel) rfl, qW_t (i := 1) (by decide +kernel) rfl, ⟨by decide +kernel, by decide +kernel⟩, by decide +kernel⟩, qW_t (i := 772) (by decide +kernel) rfl, qW_t (i := 773) (by decide +kernel) rfl⟩
def mX7_estimate : qMT := (yX7_estimate, cX7_estimate, 7, (some .int), 3, 72)
theorem mv_X7_estimate : qMV mX7_estimate 2 := ⟨⟨qW_t (i := 767) (by decide +kernel) rfl, qW_t (i := 1) (by decide +kernel) rfl, ⟨by decide +kernel, by decide +kernel⟩, by decide +kernel⟩, qW_t (i := 766) (by decide +kernel) rfl, qW_p (i := 24) (by decide +kernel) rfl⟩
def mX7_roundedMean : qMT := (yX7_roundedMean, cX7_roundedMean, 5, (some .int), 1, 25)
theorem mv_X7_roundedMean : qMS mX7_roundedMean 2 := ⟨⟨qW_t (i := 690) (by decide +kernel) rfl, qW_t (i := 1) (by decide +kernel) rfl, ⟨by decide +kernel, by decide +kernel⟩, by decide +kernel⟩, qW_t (i := 689) (by decide +kernel) rfl⟩
def mX7_rise : qMT := (yX7_rise, cX7_rise, 5, (some .int), 1, 22)
theorem mv_X7_rise : qMV mX7_rise 1 := ⟨⟨qW_t (i := 778) (by decide +kernel) rfl, qW_t (i := 1) (by decide +kernel) rfl, ⟨by decide +kernel, by decide +kernel⟩, by decide +kernel⟩, qW_t (i := 776) (by decide +kernel) rfl, qW_t (i := 777) (by decide +kernel) rfl⟩
def mX7_direction : qMT := (yX7_direction, cX7_direction, 2, (some .int), 0, 0)
theorem mv_X7_direction : qMS mX7_direction 2 := ⟨⟨qW_t (i := 781) (by decide +kernel) rfl, qW_t (i := 1) (by decide +kernel) rfl, ⟨by decide +kernel, by decide +kernel⟩, by decide +kernel⟩, qW_t (i := 780) (by decide +kernel) rfl⟩
def mX7_count : qMT := (yX7_count, cX7_count, 2, (some .int), 4, 95)
theorem mv_X7_count : qMV mX7_count 1 := ⟨⟨qW_t (i := 785) (by decide +kernel) rfl, qW_t (i := 1) (by decide +kernel) rfl, ⟨by decide +kernel, by decide +kernel⟩, by decide +kernel⟩, qW_t (i := 783) (by decide +kernel) rfl, qW_t (i := 784) (by decide +kernel) rfl⟩
def mX8_in : qMT := (yX8_in, cX8_in, 6, (some .boolean), 0, 0)
theorem mv_X8_in : qMS mX8_in 3 := ⟨⟨qW_t (i := 924) (by decide +kernel) rfl, qW_t (i := 13) (by decide +kernel) rfl, ⟨by decide +kernel, by decide +kernel⟩, by decide +kernel⟩, qW_t (i := 923) (by decide +kernel) rfl⟩
def mX8_has : qMT := (yX8_has, cX8_has, 2, (some .boolean), 0, 0)
theorem mv_X8_has : qMS mX8_has 2 := ⟨⟨qW_t (i := 1146) (by decide +kernel) rfl, qW_t (i := 13) (by decide +kernel) rfl, ⟨by decide +kernel, by decide +kernel⟩, by decide +kernel⟩, qW_t (i := 1145) (by decide +kernel) rfl⟩
def mX8_empty : qMT := (yX8_empty, cX8_empty, 2, none, 1, 24)
theorem mv_X8_empty : qMV mX8_empty 0 := ⟨⟨qW_t (i := 804) (by decide +kernel) rfl, qW_t (i := 13) (by decide +kernel) rfl, ⟨by decide +kernel, by decide +kernel⟩, by decide +kernel⟩, qW_t (i := 803) (by decide +kernel) rfl, qW_p (i := 25) (by decide +kernel) rfl⟩
def mX8_rulesAre : qMT := (yX8_rulesAre, cX8_rulesAre, 5, none, 0, 0)
theorem mv_X8_rulesAre : qMV mX8_rulesAre 4 := ⟨⟨qW_t (i := 809) (by decide +kernel) rfl, qW_t (i := 13) (by decide +kernel) rfl, ⟨by decide +kernel, by decide +kernel⟩, by decide +kernel⟩, qW_t (i := 808) (by decide +kernel) rfl, qW_p (i := 26) (by decide +kernel) rfl⟩
def mX8_stationIs : qMT := (yX8_stationIs, cX8_stationIs, 3, none, 0, 0)
theorem mv_X8_stationIs : qMV mX8_stationIs 2 := ⟨⟨qW_t (i := 813) (by decide +kernel) rfl, qW_t (i := 13) (by decide +kernel) rfl, ⟨by decide +kernel, by decide +kernel⟩, by decide +kernel⟩, qW_t (i := 812) (by decide +kernel) rfl, qW_p (i := 27) (by decide +kernel) rfl⟩
def mX8_valuesAre : qMT := (yX8_valuesAre, cX8_valuesAre, 8, none, 0, 0)
theorem mv_X8_valuesAre : qMV mX8_valuesAre 6 := ⟨⟨qW_t (i := 817) (by decide +kernel) rfl, qW_t (i := 13) (by decide +kernel) rfl, ⟨by decide +kernel, by decide +kernel⟩, by decide +kernel⟩, qW_t (i := 816) (by decide +kernel) rfl, qW_p (i := 28) (by decide +kernel) rfl⟩
def mX8_write : qMT := (yX8_write, cX8_write, 2, (some .int), 1, 25)
theorem mv_X8_write : qMV mX8_write 1 := ⟨⟨qW_t (i := 919) (by decide +kernel) rfl, qW_t (i := 13) (by decide +kernel) rfl, ⟨by decide +kernel, by decide +kernel⟩, by decide +kernel⟩, qW_t (i := 917) (by decide +kernel) rfl, qW_t (i := 918) (by decide +kernel) rfl⟩
def mX8_wipe : qMT := (yX8_wipe, cX8_wipe, 2, (some .int), 0, 0)
theorem mv_X8_wipe : qMV mX8_wipe 0 := ⟨⟨qW_t (i := 928) (by decide +kernel) rfl, qW_t (i := 13) (by decide +kernel) rfl, ⟨by decide +kernel, by decide +kernel⟩, by decide +kernel⟩, qW_t (i := 926) (by decide +kernel) rfl, qW_t (i := 927) (by decide +kernel) rfl⟩
def mX8_letterAt : qMT := (yX8_letterAt, cX8_letterAt, 2, (some .int), 0, 0)
theorem mv_X8_letterAt : qMV mX8_letterAt 1 := ⟨⟨qW_t (i := 940) (by decide +kernel) rfl, qW_t (i := 13) (by decide +kernel) rfl, ⟨by decide +kernel, by decide +kernel⟩, by decide +kernel⟩, qW_t (i := 939) (by decide +kernel) rfl, qW_p (i := 31) (by decide +kernel) rfl⟩
def mX8_sign : qMT := (yX8_sign, cX8_sign, 5, (some .int), 1, 25)
theorem mv_X8_sign : qMV mX8_sign 2 := ⟨⟨qW_t (i := 948) (by decide +kernel) rfl, qW_t (i := 13) (by decide +kernel) rfl, ⟨by decide +kernel, by decide +kernel⟩, by decide +kernel⟩, qW_t (i := 947) (by decide +kernel) rfl, qW_p (i := 33) (by decide +kernel) rfl⟩
def mX8_ends : qMT := (yX8_ends, cX8_ends, 1, (some .boolean), 1, 21)
theorem mv_X8_ends : qMV mX8_ends 0 := ⟨⟨qW_t (i := 956) (by decide +kernel) rfl, qW_t (i := 13) (by decide +kernel) rfl, ⟨by decide +kernel, by decide +kernel⟩, by decide +kernel⟩, qW_t (i := 955) (by decide +kernel) rfl, qW_p (i := 34) (by decide +kernel) rfl⟩
def mX8_yearsItem : qMT := (yX8_yearsItem, cX8_yearsItem, 1, (some .boolean), 2, 49)
theorem mv_X8_yearsItem : qMV mX8_yearsItem 0 := ⟨⟨qW_t (i := 944) (by decide +kernel) rfl, qW_t (i := 13) (by decide +kernel) rfl, ⟨by decide +kernel, by decide +kernel⟩, by decide +kernel⟩, qW_t (i := 943) (by decide +kernel) rfl, qW_p (i := 32) (by decide +kernel) rfl⟩
def mX8_stationItem : qMT := (yX8_stationItem, cX8_stationItem, 5, (some .boolean), 2, 49)
theorem mv_X8_stationItem : qMV mX8_stationItem 0 := ⟨⟨qW_t (i := 964) (by decide +kernel) rfl, qW_t (i := 13) (by decide +kernel) rfl, ⟨by decide +kernel, by decide +kernel⟩, by decide +kernel⟩, qW_t (i := 963) (by decide +kernel) rfl, qW_p (i := 36) (by decide +kernel) rfl⟩
def mX8_penaltyItem : qMT := (yX8_penaltyItem, cX8_penaltyItem, 3, (some .boolean), 2, 49)
theorem mv_X8_penaltyItem : qMV mX8_penaltyItem 0 := ⟨⟨qW_t (i := 968) (by decide +kernel) rfl, qW_t (i := 13) (by decide +kernel) rfl, ⟨by decide +kernel, by decide +kernel⟩, by decide +kernel⟩, qW_t (i := 967) (by decide +kernel) rfl, qW_p (i := 37) (by decide +kernel) rfl⟩
def mX8_rulesItem : qMT := (yX8_rulesItem, cX8_rulesItem, 5, (some .boolean), 2, 49)
theorem mv_X8_rulesItem : qMV mX8_rulesItem 0 := ⟨⟨qW_t (i := 972) (by decide +kernel) rfl, qW_t (i := 13) (by decide +kernel) rfl, ⟨by decide +kernel, by decide +kernel⟩, by decide +kernel⟩, qW_t (i := 971) (by decide +kernel) rfl, qW_p (i := 38) (by decide +kernel) rfl⟩
def mX8_item : qMT := (yX8_item, cX8_item, 2, (some .boolean), 3, 73)
theorem mv_X8_item : qMV mX8_item 1 := ⟨⟨qW_t (i := 960) (by decide +kernel) rfl, qW_t (i := 13) (by decide +kernel) rfl, ⟨by decide +kernel, by decide +kernel⟩, by decide +kernel⟩, qW_t (i := 959) (by decide +kernel) rfl, qW_p (i := 35) (by decide +kernel) rfl⟩
def mX8_readAll : qMT := (yX8_readAll, cX8_readAll, 4, (some .int), 4, 94)
theorem mv_X8_readAll : qMV mX8_readAll 0 := ⟨⟨qW_t (i := 936) (by decide +kernel) rfl, qW_t (i := 13) (by decide +kernel) rfl, ⟨by decide +kernel, by decide +kernel⟩, by decide +kernel⟩, qW_t (i := 935) (by decide +kernel) rfl, qW_p (i := 30) (by decide +kernel) rfl⟩
def mX8_fault : qMT := (yX8_fault, cX8_fault, 1, (some .int), 5, 117)
theorem mv_X8_fault : qMV mX8_fault 0 := ⟨⟨qW_t (i := 932) (by decide +kernel) rfl, qW_t (i := 13) (by decide +kernel) rfl, ⟨by decide +kernel, by decide +kernel⟩, by decide +kernel⟩, qW_t (i := 930) (by decide +kernel) rfl, qW_t (i := 931) (by decide +kernel) rfl⟩
def mX8_lay : qMT := (yX8_lay, cX8_lay, 1, (some .int), 5, 117)
theorem mv_X8_lay : qMV mX8_lay 0 := ⟨⟨qW_t (i := 976) (by decide +kernel) rfl, qW_t (i := 13) (by decide +kernel) rfl, ⟨by decide +kernel, by decide +kernel⟩, by decide +kernel⟩, qW_t (i := 974) (by decide +kernel) rfl, qW_t (i := 975) (by decide +kernel) rfl⟩
def mX8_begin : qMT := (yX8_begin, cX8_begin, 2, none, 0, 0)
theorem mv_X8_begin : qMV mX8_begin 0 := ⟨⟨qW_t (i := 821) (by decide +kernel) rfl, qW_t (i := 13) (by decide +kernel) rfl, ⟨by decide +kernel, by decide +kernel⟩, by decide +kernel⟩, qW_t (i := 820) (by decide +kernel) rfl, qW_p (i := 29) (by decide +kernel) rfl⟩
def mX8_isStation : qMT := (yX8_isStation, cX8_isStation, 2, (some .boolean), 1, 25)
theorem mv_X8_isStation : qMV mX8_isStation 1 := ⟨⟨qW_t (i := 984) (by decide +kernel) rfl, qW_t (i := 13) (by decide +kernel) rfl, ⟨by decide +kernel, by decide +kernel⟩, by decide +kernel⟩, qW_t (i := 983) (by decide +kernel) rfl, qW_p (i := 39) (by decide +kernel) rfl⟩
def mX8_isYear : qMT := (yX8_isYear, cX8_isYear, 2, (some .boolean), 1, 25)
theorem mv_X8_isYear : qMV mX8_isYear 1 := ⟨⟨qW_t (i := 988) (by decide +kernel) rfl, qW_t (i := 13) (by decide +kernel) rfl, ⟨by decide +kernel, by decide +kernel⟩, by decide +kernel⟩, qW_t (i := 987) (by decide +kernel) rfl, qW_p (i := 40) (by decide +kernel) rfl⟩
def mX8_areTwo : qMT := (yX8_areTwo, cX8_areTwo, 3, (some .boolean), 2, 46)
theorem mv_X8_areTwo : qMV mX8_areTwo 2 := ⟨⟨qW_t (i := 1062) (by decide +kernel) rfl, qW_t (i := 13) (by decide +kernel) rfl, ⟨by decide +kernel, by decide +kernel⟩, by decide +kernel⟩, qW_t (i := 1061) (by decide +kernel) rfl, qW_p (i := 47) (by decide +kernel) rfl⟩
def mX8_valueOf : qMT := (yX8_valueOf, cX8_valueOf, 3, (some .int), 0, 0)
theorem mv_X8_valueOf : qMV mX8_valueOf 2 := ⟨⟨qW_t (i := 992) (by decide +kernel) rfl, qW_t (i := 13) (by decide +kernel) rfl, ⟨by decide +kernel, by decide +kernel⟩, by decide +kernel⟩, qW_t (i := 991) (by decide +kernel) rfl, qW_p (i := 41) (by decide +kernel) rfl⟩
def mX8_isThere : qMT := (yX8_isThere, cX8_isThere, 3, (some .boolean), 1, 22)
theorem mv_X8_isThere : qMV mX8_isThere 2 := ⟨⟨qW_t (i := 1018) (by decide +kernel) rfl, qW_t (i := 13) (by decide +kernel) rfl, ⟨by decide +kernel, by decide +kernel⟩, by decide +kernel⟩, qW_t (i := 1017) (by decide +kernel) rfl, qW_p (i := 44) (by decide +kernel) rfl⟩
def mX8_told : qMT := (yX8_told, cX8_told, 1, (some .int), 0, 0)
theorem mv_X8_told : qMS mX8_told 1 := ⟨⟨qW_t (i := 995) (by decide +kernel) rfl, qW_t (i := 13) (by decide +kernel) rfl, ⟨by decide +kernel, by decide +kernel⟩, by decide +kernel⟩, qW_t (i := 994) (by decide +kernel) rfl⟩
def mX8_note : qMT := (yX8_note, cX8_note, 2, none, 0, 0)
theorem mv_X8_note : qMV mX8_note 0 := ⟨⟨qW_t (i := 1010) (by decide +kernel) rfl, qW_t (i := 13) (by decide +kernel) rfl, ⟨by decide +kernel, by decide +kernel⟩, by decide +kernel⟩, qW_t (i := 1009) (by decide +kernel) rfl, qW_p (i := 43) (by decide +kernel) rfl⟩
def mX8_change : qMT := (yX8_change, cX8_change, 4, (some .int), 1, 21)
theorem mv_X8_change : qMV mX8_change 2 := ⟨⟨qW_t (i := 1006) (by decide +kernel) rfl, qW_t (i := 13) (by decide +kernel) rfl, ⟨by decide +kernel, by decide +kernel⟩, by decide +kernel⟩, qW_t (i := 1005) (by decide +kernel) rfl, qW_p (i := 42) (by decide +kernel) rfl⟩
def mX8_value : qMT := (yX8_value, cX8_value, 3, (some .int), 2, 46)
theorem mv_X8_value : qMV mX8_value 2 := ⟨⟨qW_t (i := 980) (by decide +kernel) rfl, qW_t (i := 13) (by decide +kernel) rfl, ⟨by decide +kernel, by decide +kernel⟩, by decide +kernel⟩, qW_t (i := 978) (by decide +kernel) rfl, qW_t (i := 979) (by decide +kernel) rfl⟩
def mX8_set : qMT := (yX8_set, cX8_set, 4, (some .int), 2, 46)
theorem mv_X8_set : qMV mX8_set 3 := ⟨⟨qW_t (i := 1000) (by decide +kernel) rfl, qW_t (i := 13) (by decide +kernel) rfl, ⟨by decide +kernel, by decide +kernel⟩, by decide +kernel⟩, qW_t (i := 998) (by decide +kernel) rfl, qW_t (i := 999) (by decide +kernel) rfl⟩
def mX8_lose : qMT := (yX8_lose, cX8_lose, 3, (some .int), 2, 46)
theorem mv_X8_lose : qMV mX8_lose 2 := ⟨⟨qW_t (i := 1014) (by decide +kernel) rfl, qW_t (i := 13) (by decide +kernel) rfl, ⟨by decide +kernel, by decide +kernel⟩, by decide +kernel⟩, qW_t (i := 1012) (by decide +kernel) rfl, qW_t (i := 1013) (by decide +kernel) rfl⟩
def mX8_penalty : qMT := (yX8_penalty, cX8_penalty, 2, (some .int), 2, 44)
theorem mv_X8_penalty : qMV mX8_penalty 1 := ⟨⟨qW_t (i := 1022) (by decide +kernel) rfl, qW_t (i := 13) (by decide +kernel) rfl, ⟨by decide +kernel, by decide +kernel⟩, by decide +kernel⟩, qW_t (i := 1020) (by decide +kernel) rfl, qW_t (i := 1021) (by decide +kernel) rfl⟩
def mX8_rule : qMT := (yX8_rule, cX8_rule, 4, (some .int), 2, 44)
theorem mv_X8_rule : qMV mX8_rule 2 := ⟨⟨qW_t (i := 1027) (by decide +kernel) rfl, qW_t (i := 13) (by decide +kernel) rfl, ⟨by decide +kernel, by decide +kernel⟩, by decide +kernel⟩, qW_t (i := 1025) (by decide +kernel) rfl, qW_t (i := 1026) (by decide +kernel) rfl⟩
def mX8_undo : qMT := (yX8_undo, cX8_undo, 2, (some .int), 0, 0)
theorem mv_X8_undo : qMV mX8_undo 0 := ⟨⟨qW_t (i := 1034) (by decide +kernel) rfl, qW_t (i := 13) (by decide +kernel) rfl, ⟨by decide +kernel, by decide +kernel⟩, by decide +kernel⟩, qW_t (i := 1032) (by decide +kernel) rfl, qW_t (i := 1033) (by decide +kernel) rfl⟩
def mX8_day : qMT := (yX8_day, cX8_day, 10, (some .int), 2, 44)
theorem mv_X8_day : qMV mX8_day 2 := ⟨⟨qW_t (i := 1038) (by decide +kernel) rfl, qW_t (i := 13) (by decide +kernel) rfl, ⟨by decide +kernel, by decide +kernel⟩, by decide +kernel⟩, qW_t (i := 1036) (by decide +kernel) rfl, qW_t (i := 1037) (by decide +kernel) rfl⟩
def mX8_square : qMT := (yX8_square, cX8_square, 3, (some .int), 0, 0)
theorem mv_X8_square : qMV mX8_square 2 := ⟨⟨qW_t (i := 1054) (by decide +kernel) rfl, qW_t (i := 13) (by decide +kernel) rfl, ⟨by decide +kernel, by decide +kernel⟩, by decide +kernel⟩, qW_t (i := 1053) (by decide +kernel) rfl, qW_p (i := 46) (by decide +kernel) rfl⟩
def mX8_rankOf : qMT := (yX8_rankOf, cX8_rankOf, 6, (some .int), 1, 22)
theorem mv_X8_rankOf : qMV mX8_rankOf 2 := ⟨⟨qW_t (i := 1050) (by decide +kernel) rfl, qW_t (i := 13) (by decide +kernel) rfl, ⟨by decide +kernel, by decide +kernel⟩, by decide +kernel⟩, qW_t (i := 1049) (by decide +kernel) rfl, qW_p (i := 45) (by decide +kernel) rfl⟩
def mX8_nearest : qMT := (yX8_nearest, cX8_nearest, 4, (some .int), 2, 47)
theorem mv_X8_nearest : qMV mX8_nearest 2 := ⟨⟨qW_t (i := 1046) (by decide +kernel) rfl, qW_t (i := 13) (by decide +kernel) rfl, ⟨by decide +kernel, by decide +kernel⟩, by decide +kernel⟩, qW_t (i := 1044) (by decide +kernel) rfl, qW_t (i := 1045) (by decide +kernel) rfl⟩
def mX8_isPair : qMT := (yX8_isPair, cX8_isPair, 3, (some .boolean), 2, 47)
theorem mv_X8_isPair : qMV mX8_isPair 2 := ⟨⟨qW_t (i := 1066) (by decide +kernel) rfl, qW_t (i := 13) (by decide +kernel) rfl, ⟨by decide +kernel, by decide +kernel⟩, by decide +kernel⟩, qW_t (i := 1065) (by decide +kernel) rfl, qW_p (i := 48) (by decide +kernel) rfl⟩
def mX8_pair : qMT := (yX8_pair, cX8_pair, 3, (some .int), 3, 69)
theorem mv_X8_pair : qMV mX8_pair 2 := ⟨⟨qW_t (i := 1058) (by decide +kernel) rfl, qW_t (i := 13) (by decide +kernel) rfl, ⟨by decide +kernel, by decide +kernel⟩, by decide +kernel⟩, qW_t (i := 1056) (by decide +kernel) rfl, qW_t (i := 1057) (by decide +kernel) rfl⟩
def mX8_rowOf : qMT := (yX8_rowOf, cX8_rowOf, 4, none, 2, 44)
theorem mv_X8_rowOf : qMV mX8_rowOf 2 := ⟨⟨qW_t (i := 1074) (by decide +kernel) rfl, qW_t (i := 13) (by decide +kernel) rfl, ⟨by decide +kernel, by decide +kernel⟩, by decide +kernel⟩, qW_t (i := 1073) (by decide +kernel) rfl, qW_p (i := 49) (by decide +kernel) rfl⟩
def mX8_sumOf : qMT := (yX8_sumOf, cX8_sumOf, 6, (some .long), 0, 0)
theorem mv_X8_sumOf : qMV mX8_sumOf 2 := ⟨⟨qW_t (i := 1091) (by decide +kernel) rfl, qW_t (i := 13) (by decide +kernel) rfl, ⟨by decide +kernel, by decide +kernel⟩, by decide +kernel⟩, qW_t (i := 1090) (by decide +kernel) rfl, qW_p (i := 51) (by decide +kernel) rfl⟩
def mX8_spreadOf : qMT := (yX8_spreadOf, cX8_spreadOf, 7, (some .long), 1, 25)
theorem mv_X8_spreadOf : qMV mX8_spreadOf 2 := ⟨⟨qW_t (i := 1087) (by decide +kernel) rfl, qW_t (i := 13) (by decide +kernel) rfl, ⟨by decide +kernel, by decide +kernel⟩, by decide +kernel⟩, qW_t (i := 1086) (by decide +kernel) rfl, qW_p (i := 50) (by decide +kernel) rfl⟩
def mX8_learn : qMT := (yX8_learn, cX8_learn, 9, none, 3, 67)
theorem mv_X8_learn : qMV mX8_learn 2 := ⟨⟨qW_t (i := 1105) (by decide +kernel) rfl, qW_t (i := 13) (by decide +kernel) rfl, ⟨by decide +kernel, by decide +kernel⟩, by decide +kernel⟩, qW_t (i := 1104) (by decide +kernel) rfl, qW_p (i := 53) (by decide +kernel) rfl⟩
def mX8_breaksBy : qMT := (yX8_breaksBy, cX8_breaksBy, 6, (some .int), 0, 0)
theorem mv_X8_breaksBy : qMV mX8_breaksBy 1 := ⟨⟨qW_t (i := 1110) (by decide +kernel) rfl, qW_t (i := 13) (by decide +kernel) rfl, ⟨by decide +kernel, by decide +kernel⟩, by decide +kernel⟩, qW_t (i := 1109) (by decide +kernel) rfl, qW_p (i := 54) (by decide +kernel) rfl⟩
def mX8_findBest : qMT := (yX8_findBest, cX8_findBest, 6, none, 4, 95)
theorem mv_X8_findBest : qMV mX8_findBest 2 := ⟨⟨qW_t (i := 1101) (by decide +kernel) rfl, qW_t (i := 13) (by decide +kernel) rfl, ⟨by decide +kernel, by decide +kernel⟩, by decide +kernel⟩, qW_t (i := 1100) (by decide +kernel) rfl, qW_p (i := 52) (by decide +kernel) rfl⟩
def mX8_entry : qMT := (yX8_entry, cX8_entry, 4, (some .int), 3, 68)
theorem mv_X8_entry : qMV mX8_entry 3 := ⟨⟨qW_t (i := 1070) (by decide +kernel) rfl, qW_t (i := 13) (by decide +kernel) rfl, ⟨by decide +kernel, by decide +kernel⟩, by decide +kernel⟩, qW_t (i := 1068) (by decide +kernel) rfl, qW_t (i := 1069) (by decide +kernel) rfl⟩
def mX8_year : qMT := (yX8_year, cX8_year, 4, (some .int), 3, 68)
theorem mv_X8_year : qMV mX8_year 3 := ⟨⟨qW_t (i := 1078) (by decide +kernel) rfl, qW_t (i := 13) (by decide +kernel) rfl, ⟨by decide +kernel, by decide +kernel⟩, by decide +kernel⟩, qW_t (i := 1076) (by decide +kernel) rfl, qW_t (i := 1077) (by decide +kernel) rfl⟩
def mX8_spread : qMT := (yX8_spread, cX8_spread, 5, (some .long), 3, 68)
theorem mv_X8_spread : qMV mX8_spread 4 := ⟨⟨qW_t (i := 1082) (by decide +kernel) rfl, qW_t (i := 13) (by decide +kernel) rfl, ⟨by decide +kernel, by decide +kernel⟩, by decide +kernel⟩, qW_t (i := 1080) (by decide +kernel) rfl, qW_t (i := 1081) (by decide +kernel) rfl⟩
def mX8_split : qMT := (yX8_split, cX8_split, 4, (some .int), 5, 120)
theorem mv_X8_split : qMV mX8_split 3 := ⟨⟨qW_t (i := 1097) (by decide +kernel) rfl, qW_t (i := 13) (by decide +kernel) rfl, ⟨by decide +kernel, by decide +kernel⟩, by decide +kernel⟩, qW_t (i := 1095) (by decide +kernel) rfl, qW_t (i := 1096) (by decide +kernel) rfl⟩
def mX8_cost : qMT := (yX8_cost, cX8_cost, 3, (some .long), 5, 120)
theorem mv_X8_cost : qMV mX8_cost 2 := ⟨⟨qW_t (i := 1114) (by decide +kernel) rfl, qW_t (i := 13) (by decide +kernel) rfl, ⟨by decide +kernel, by decide +kernel⟩, by decide +kernel⟩, qW_t (i := 1112) (by decide +kernel) rfl, qW_t (i := 1113) (by decide +kernel) rfl⟩
def mX8_spreads : qMT := (yX8_spreads, cX8_spreads, 4, (some .long), 4, 95)
theorem mv_X8_spreads : qMV mX8_spreads 3 := ⟨⟨qW_t (i := 1118) (by decide +kernel) rfl, qW_t (i := 13) (by decide +kernel) rfl, ⟨by decide +kernel, by decide +kernel⟩, by decide +kernel⟩, qW_t (i := 1116) (by decide +kernel) rfl, qW_t (i := 1117) (by decide +kernel) rfl⟩
def mX8_breaks : qMT := (yX8_breaks, cX8_breaks, 4, (some .int), 4, 95)
theorem mv_X8_breaks : qMV mX8_breaks 3 := ⟨⟨qW_t (i := 1123) (by decide +kernel) rfl, qW_t (i := 13) (by decide +kernel) rfl, ⟨by decide +kernel, by decide +kernel⟩, by decide +kernel⟩, qW_t (i := 1121) (by decide +kernel) rfl, qW_t (i := 1122) (by decide +kernel) rfl⟩
def mX8_least : qMT := (yX8_least, cX8_least, 5, (some .int), 4, 95)
theorem mv_X8_least : qMV mX8_least 3 := ⟨⟨qW_t (i := 1127) (by decide +kernel) rfl, qW_t (i := 13) (by decide +kernel) rfl, ⟨by decide +kernel, by decide +kernel⟩, by decide +kernel⟩, qW_t (i := 1125) (by decide +kernel) rfl, qW_t (i := 1126) (by decide +kernel) rfl⟩
def mX8_findBreaks : qMT := (yX8_findBreaks, cX8_findBreaks, 5, none, 5, 120)
theorem mv_X8_findBreaks : qMV mX8_findBreaks 0 := ⟨⟨qW_t (i := 1139) (by decide +kernel) rfl, qW_t (i := 13) (by decide +kernel) rfl, ⟨by decide +kernel, by decide +kernel⟩, by decide +kernel⟩, qW_t (i := 1138) (by decide +kernel) rfl, qW_p (i := 56) (by decide +kernel) rfl⟩
def mX8_withWhom : qMT := (yX8_withWhom, cX8_withWhom, 6, (some .int), 1, 21)
theorem mv_X8_withWhom : qMV mX8_withWhom 3 := ⟨⟨qW_t (i := 1143) (by decide +kernel) rfl, qW_t (i := 13) (by decide +kernel) rfl, ⟨by decide +kernel, by decide +kernel⟩, by decide +kernel⟩, qW_t (i := 1142) (by decide +kernel) rfl, qW_p (i := 57) (by decide +kernel) rfl⟩
def mX8_ones : qMT := (yX8_ones, cX8_ones, 3, (some .int), 0, 0)
theorem mv_X8_ones : qMS mX8_ones 1 := ⟨⟨qW_t (i := 1149) (by decide +kernel) rfl, qW_t (i := 13) (by decide +kernel) rfl, ⟨by decide +kernel, by decide +kernel⟩, by decide +kernel⟩, qW_t (i := 1148) (by decide +kernel) rfl⟩
def mX8_finds : qMT := (yX8_finds, cX8_finds, 6, none, 2, 46)
theorem mv_X8_finds : qMV mX8_finds 2 := ⟨⟨qW_t (i := 1153) (by decide +kernel) rfl, qW_t (i := 13) (by decide +kernel) rfl, ⟨by decide +kernel, by decide +kernel⟩, by decide +kernel⟩, qW_t (i := 1152) (by decide +kernel) rfl, qW_p (i := 58) (by decide +kernel) rfl⟩
def mX8_know : qMT := (yX8_know, cX8_know, 8, none, 6, 144)
theorem mv_X8_know : qMV mX8_know 0 := ⟨⟨qW_t (i := 1135) (by decide +kernel) rfl, qW_t (i := 13) (by decide +kernel) rfl, ⟨by decide +kernel, by decide +kernel⟩, by decide +kernel⟩, qW_t (i := 1134) (by decide +kernel) rfl, qW_p (i := 55) (by decide +kernel) rfl⟩
def mX8_votes : qMT := (yX8_votes, cX8_votes, 3, (some .int), 7, 171)
theorem mv_X8_votes : qMV mX8_votes 2 := ⟨⟨qW_t (i := 1131) (by decide +kernel) rfl, qW_t (i := 13) (by decide +kernel) rfl, ⟨by decide +kernel, by decide +kernel⟩, by decide +kernel⟩, qW_t (i := 1129) (by decide +kernel) rfl, qW_t (i := 1130) (by decide +kernel) rfl⟩
def mX8_nearestOf : qMT := (yX8_nearestOf, cX8_nearestOf, 10, (some .long), 0, 0)
theorem mv_X8_nearestOf : qMS mX8_nearestOf 2 := ⟨⟨qW_t (i := 1169) (by decide +kernel) rfl, qW_t (i := 13) (by decide +kernel) rfl, ⟨by decide +kernel, by decide +kernel⟩, by decide +kernel⟩, qW_t (i := 1168) (by decide +kernel) rfl⟩
def mX8_rises : qMT := (yX8_rises, cX8_rises, 10, (some .long), 5, 120)
theorem mv_X8_rises : qMV mX8_rises 3 := ⟨⟨qW_t (i := 1166) (by decide +kernel) rfl, qW_t (i := 13) (by decide +kernel) rfl, ⟨by decide +kernel, by decide +kernel⟩, by decide +kernel⟩, qW_t (i := 1165) (by decide +kernel) rfl, qW_p (i := 60) (by decide +kernel) rfl⟩
def mX8_sizeOf : qMT := (yX8_sizeOf, cX8_sizeOf, 5, (some .int), 6, 149)
theorem mv_X8_sizeOf : qMV mX8_sizeOf 1 := ⟨⟨qW_t (i := 1162) (by decide +kernel) rfl, qW_t (i := 13) (by decide +kernel) rfl, ⟨by decide +kernel, by decide +kernel⟩, by decide +kernel⟩, qW_t (i := 1161) (by decide +kernel) rfl, qW_p (i := 59) (by decide +kernel) rfl⟩
def mX8_culprit : qMT := (yX8_culprit, cX8_culprit, 3, (some .int), 7, 173)
theorem mv_X8_culprit : qMV mX8_culprit 2 := ⟨⟨qW_t (i := 1157) (by decide +kernel) rfl, qW_t (i := 13) (by decide +kernel) rfl, ⟨by decide +kernel, by decide +kernel⟩, by decide +kernel⟩, qW_t (i := 1155) (by decide +kernel) rfl, qW_t (i := 1156) (by decide +kernel) rfl⟩
def mX8_mend : qMT := (yX8_mend, cX8_mend, 7, (some .int), 7, 173)
theorem mv_X8_mend : qMV mX8_mend 1 := ⟨⟨qW_t (i := 1173) (by decide +kernel) rfl, qW_t (i := 13) (by decide +kernel) rfl, ⟨by decide +kernel, by decide +kernel⟩, by decide +kernel⟩, qW_t (i := 1171) (by decide +kernel) rfl, qW_t (i := 1172) (by decide +kernel) rfl⟩
def mX8_mends : qMT := (yX8_mends, cX8_mends, 2, (some .int), 8, 199)
theorem mv_X8_mends : qMV mX8_mends 0 := ⟨⟨qW_t (i := 1177) (by decide +kernel) rfl, qW_t (i := 13) (by decide +kernel) rfl, ⟨by decide +kernel, by decide +kernel⟩, by decide +kernel⟩, qW_t (i := 1175) (by decide +kernel) rfl, qW_t (i := 1176) (by decide +kernel) rfl⟩
def mX8_ledger : qMT := (yX8_ledger, cX8_ledger, 3, (some .int), 1, 25)
theorem mv_X8_ledger : qMV mX8_ledger 2 := ⟨⟨qW_t (i := 1182) (by decide +kernel) rfl, qW_t (i := 13) (by decide +kernel) rfl, ⟨by decide +kernel, by decide +kernel⟩, by decide +kernel⟩, qW_t (i := 1180) (by decide +kernel) rfl, qW_t (i := 1181) (by decide +kernel) rfl⟩
def mX8_canMake : qMT := (yX8_canMake, cX8_canMake, 7, (some .boolean), 3, 69)
theorem mv_X8_canMake : qMV mX8_canMake 2 := ⟨⟨qW_t (i := 1190) (by decide +kernel) rfl, qW_t (i := 13) (by decide +kernel) rfl, ⟨by decide +kernel, by decide +kernel⟩, by decide +kernel⟩, qW_t (i := 1189) (by decide +kernel) rfl, qW_p (i := 61) (by decide +kernel) rfl⟩
def mX8_made : qMT := (yX8_made, cX8_made, 3, (some .int), 4, 95)
theorem mv_X8_made : qMV mX8_made 2 := ⟨⟨qW_t (i := 1186) (by decide +kernel) rfl, qW_t (i := 13) (by decide +kernel) rfl, ⟨by decide +kernel, by decide +kernel⟩, by decide +kernel⟩, qW_t (i := 1184) (by decide +kernel) rfl, qW_t (i := 1185) (by decide +kernel) rfl⟩
def mX8_make : qMT := (yX8_make, cX8_make, 3, (some .int), 4, 95)
theorem mv_X8_make : qMV mX8_make 2 := ⟨⟨qW_t (i := 1194) (by decide +kernel) rfl, qW_t (i := 13) (by decide +kernel) rfl, ⟨by decide +kernel, by decide +kernel⟩, by decide +kernel⟩, qW_t (i := 1192) (by decide +kernel) rfl, qW_t (i := 1193) (by decide +kernel) rfl⟩
def mX8_rise : qMT := (yX8_rise, cX8_rise, 5, (some .int), 2, 46)
theorem mv_X8_rise : qMV mX8_rise 1 := ⟨⟨qW_t (i := 1198) (by decide +kernel) rfl, qW_t (i := 13) (by decide +kernel) rfl, ⟨by decide +kernel, by decide +kernel⟩, by decide +kernel⟩, qW_t (i := 1196) (by decide +kernel) rfl, qW_t (i := 1197) (by decide +kernel) rfl⟩
def mX8_pairs : qMT := (yX8_pairs, cX8_pairs, 4, (some .int), 3, 69)
theorem mv_X8_pairs : qMV mX8_pairs 0 := ⟨⟨qW_t (i := 1206) (by decide +kernel) rfl, qW_t (i := 13) (by decide +kernel) rfl, ⟨by decide +kernel, by decide +kernel⟩, by decide +kernel⟩, qW_t (i := 1205) (by decide +kernel) rfl, qW_p (i := 62) (by decide +kernel) rfl⟩
def mX8_missing : qMT := (yX8_missing, cX8_missing, 4, (some .int), 2, 44)
theorem mv_X8_missing : qMV mX8_missing 0 := ⟨⟨qW_t (i := 1210) (by decide +kernel) rfl, qW_t (i := 13) (by decide +kernel) rfl, ⟨by decide +kernel, by decide +kernel⟩, by decide +kernel⟩, qW_t (i := 1209) (by decide +kernel) rfl, qW_p (i := 63) (by decide +kernel) rfl⟩
def mX8_count : qMT := (yX8_count, cX8_count, 2, (some .int), 4, 92)
theorem mv_X8_count : qMV mX8_count 1 := ⟨⟨qW_t (i := 1202) (by decide +kernel) rfl, qW_t (i := 13) (by decide +kernel) rfl, ⟨by decide +kernel, by decide +kernel⟩, by decide +kernel⟩, qW_t (i := 1200) (by decide +kernel) rfl, qW_t (i := 1201) (by decide +kernel) rfl⟩
def mJ9_floorDiv_f86c9 : qMT := (yJ9_floorDiv_f86c9, cJ9_floorDiv_f86c9, 6, (some .long), 0, 0)
theorem mv_J9_floorDiv_f86c9 : qMS mJ9_floorDiv_f86c9 2 := ⟨⟨qW_t (i := 695) (by decide +kernel) rfl, qW_t (i := 14) (by decide +kernel) rfl, ⟨by decide +kernel, by decide +kernel⟩, by decide +kernel⟩, qW_t (i := 694) (by decide +kernel) rfl⟩
def mJ9_max_7cf53 : qMT := (yJ9_max_7cf53, cJ9_max_7cf53, 2, (some .int), 0, 0)
theorem mv_J9_max_7cf53 : qMS mJ9_max_7cf53 2 := ⟨⟨qW_t (i := 702) (by decide +kernel) rfl, qW_t (i := 14) (by decide +kernel) rfl, ⟨by decide +kernel, by decide +kernel⟩, by decide +kernel⟩, qW_t (i := 701) (by decide +kernel) rfl⟩
def mJ9_min_7cf53 : qMT := (yJ9_min_7cf53, cJ9_min_7cf53, 2, (some .int), 0, 0)
theorem mv_J9_min_7cf53 : qMS mJ9_min_7cf53 2 := ⟨⟨qW_t (i := 705) (by decide +kernel) rfl, qW_t (i := 14) (by decide +kernel) rfl, ⟨by decide +kernel, by decide +kernel⟩, by decide +kernel⟩, qW_t (i := 704) (by decide +kernel) rfl⟩
def mJ9_min_f86c9 : qMT := (yJ9_min_f86c9, cJ9_min_f86c9, 4, (some .long), 0, 0)
theorem mv_J9_min_f86c9 : qMS mJ9_min_f86c9 2 := ⟨⟨qW_t (i := 629) (by decide +kernel) rfl, qW_t (i := 14) (by decide +kernel) rfl, ⟨by decide +kernel, by decide +kernel⟩, by decide +kernel⟩, qW_t (i := 628) (by decide +kernel) rfl⟩
theorem lf_RX0_9 : qLF RX0 9 0 3 .int := ⟨_, _, _, _, ck_0, by decide, qW_t (i := 136) (by decide +kernel) rfl, rfl, rfl, rfl⟩
theorem lg_RX0_41 : qLG RX0 41 0 0 := ⟨_, _, _, _, ck_0, by decide, qW_t (i := 133) (by decide +kernel) rfl, rfl⟩
theorem lm_RX0_53 : Cond.methodLink RX0 53 yX3_version ∈ qW := qW_t (i := 647) (by decide +kernel) rfl
theorem lm_RX0_58 : Cond.methodLink RX0 58 yX0_clear ∈ qW := qW_t (i := 651) (by decide +kernel) rfl
theorem lm_RX0_61 : Cond.methodLink RX0 61 yX3_stations ∈ qW := qW_t (i := 655) (by decide +kernel) rfl
theorem lm_RX0_64 : Cond.methodLink RX0 64 yX3_arePair ∈ qW := qW_t (i := 656) (by decide +kernel) rfl
theorem lm_RX0_68 : Cond.methodLink RX0 68 yX0_addPair ∈ qW := qW_t (i := 657) (by decide +kernel) rfl
theorem lf_RX0_72 : qLF RX0 72 0 11 .int := ⟨_, _, _, _, ck_0, by decide, qW_t (i := 144) (by decide +kernel) rfl, rfl, rfl, rfl⟩
theorem lm_RX0_75 : Cond.methodLink RX0 75 yX0_findCulprit ∈ qW := qW_t (i := 675) (by decide +kernel) rfl
theorem lg_RX0_38 : qLG RX0 38 0 12 := ⟨_, _, _, _, ck_0, by decide, qW_t (i := 145) (by decide +kernel) rfl, rfl⟩
theorem lm_RX0_79 : Cond.methodLink RX0 79 yX0_strikeVotes ∈ qW := qW_t (i := 696) (by decide +kernel) rfl
theorem lg_RX0_32 : qLG RX0 32 0 9 := ⟨_, _, _, _, ck_0, by decide, qW_t (i := 142) (by decide +kernel) rfl, rfl⟩
theorem lf_RX0_82 : qLF RX0 82 0 4 .int := ⟨_, _, _, _, ck_0, by decide, qW_t (i := 137) (by decide +kernel) rfl, rfl, rfl, rfl⟩
theorem lg_RX0_24 : qLG RX0 24 0 7 := ⟨_, _, _, _, ck_0, by decide, qW_t (i := 140) (by decide +kernel) rfl, rfl⟩
theorem lg_RX0_35 : qLG RX0 35 0 10 := ⟨_, _, _, _, ck_0, by decide, qW_t (i := 143) (by decide +kernel) rfl, rfl⟩
theorem lg_RX0_15 : qLG RX0 15 0 5 := ⟨_, _, _, _, ck_0, by decide, qW_t (i := 138) (by decide +kernel) rfl, rfl⟩
theorem lg_RX0_19 : qLG RX0 19 0 6 := ⟨_, _, _, _, ck_0, by decide, qW_t (i := 139) (by decide +kernel) rfl, rfl⟩
theorem lg_RX0_45 : qLG RX0 45 0 1 := ⟨_, _, _, _, ck_0, by decide, qW_t (i := 134) (by decide +kernel) rfl, rfl⟩
theorem lm_RX0_85 : Cond.methodLink RX0 85 yX6_compare ∈ qW := qW_t (i := 661) (by decide +kernel) rfl
theorem lg_RX0_49 : qLG RX0 49 0 2 := ⟨_, _, _, _, ck_0, by decide, qW_t (i := 135) (by decide +kernel) rfl, rfl⟩
theorem lm_RX0_91 : Cond.methodLink RX0 91 yX3_ruleOf ∈ qW := qW_t (i := 662) (by decide +kernel) rfl
theorem lm_RX0_95 : Cond.methodLink RX0 95 yX3_breakPenalty ∈ qW := qW_t (i := 663) (by decide +kernel) rfl
theorem lm_RX0_98 : Cond.methodLink RX0 98 yX5_fit ∈ qW := qW_t (i := 664) (by decide +kernel) rfl
theorem lm_RX0_103 : Cond.methodLink RX0 103 yX5_breakCount ∈ qW := qW_t (i := 665) (by decide +kernel) rfl
theorem lm_RX0_106 : Cond.methodLink RX0 106 yX5_breakYear ∈ qW := qW_t (i := 666) (by decide +kernel) rfl
theorem lg_RX0_29 : qLG RX0 29 0 8 := ⟨_, _, _, _, ck_0, by decide, qW_t (i := 141) (by decide +kernel) rfl, rfl⟩
theorem lm_RX0_109 : Cond.methodLink RX0 109 yX5_scaledShift ∈ qW := qW_t (i := 667) (by decide +kernel) rfl
theorem lm_RX0_113 : Cond.methodLink RX0 113 yX3_years ∈ qW := qW_t (i := 679) (by decide +kernel) rfl
theorem lm_RX0_116 : Cond.methodLink RX0 116 yX0_size ∈ qW := qW_t (i := 680) (by decide +kernel) rfl
theorem lm_RX0_120 : Cond.methodLink RX0 120 yX0_isOf ∈ qW := qW_t (i := 684) (by decide +kernel) rfl
theorem lm_RX0_123 : ∀ U, qNest U → va_Nw (.methodLinkNest RX0 123 yX7_roundedMean "ShiftMender") U := fun U h => h.2.1
theorem lm_RX0_127 : Cond.methodLink RX0 127 yJ9_max_7cf53 ∈ qW := qW_t (i := 700) (by decide +kernel) rfl
theorem lm_RX0_132 : Cond.methodLink RX0 132 yJ9_min_7cf53 ∈ qW := qW_t (i := 703) (by decide +kernel) rfl
theorem lf_RX1_16 : qLF RX1 16 1 2 .int := ⟨_, _, _, _, ck_1, by decide, qW_t (i := 182) (by decide +kernel) rfl, rfl, rfl, rfl⟩
theorem lm_RX1_20 : Cond.methodLink RX1 20 yX1_slot ∈ qW := qW_t (i := 435) (by decide +kernel) rfl
theorem lg_RX1_11 : qLG RX1 11 1 0 := ⟨_, _, _, _, ck_1, by decide, qW_t (i := 180) (by decide +kernel) rfl, rfl⟩
theorem lf_RX1_24 : qLF RX1 24 1 1 .int := ⟨_, _, _, _, ck_1, by decide, qW_t (i := 181) (by decide +kernel) rfl, rfl, rfl, rfl⟩
theorem lf_RX2_16 : qLF RX2 16 2 1 .int := ⟨_, _, _, _, ck_2, by decide, qW_t (i := 198) (by decide +kernel) rfl, rfl, rfl, rfl⟩
theorem lm_RX2_20 : Cond.methodLink RX2 20 yX2_isFull ∈ qW := qW_t (i := 743) (by decide +kernel) rfl
theorem lg_RX2_11 : qLG RX2 11 2 0 := ⟨_, _, _, _, ck_2, by decide, qW_t (i := 197) (by decide +kernel) rfl, rfl⟩
theorem lf_RX3_26 : qLF RX3 26 3 0 .int := ⟨_, _, _, _, ck_3, by decide, qW_t (i := 37) (by decide +kernel) rfl, rfl, rfl, rfl⟩
theorem lf_RX3_30 : qLF RX3 30 3 1 .int := ⟨_, _, _, _, ck_3, by decide, qW_t (i := 38) (by decide +kernel) rfl, rfl, rfl, rfl⟩
theorem lf_RX3_33 : qLF RX3 33 3 5 .int := ⟨_, _, _, _, ck_3, by decide, qW_t (i := 42) (by decide +kernel) rfl, rfl, rfl, rfl⟩
theorem lg_RX3_23 : qLG RX3 23 3 6 := ⟨_, _, _, _, ck_3, by decide, qW_t (i := 43) (by decide +kernel) rfl, rfl⟩
theorem ls_RX3_36 : ∀ U, qNest U → va_Nw (.fieldLinkNest RX3 36 "ShiftMender" (qtn 2) "[I" "ShiftMender") U := fun U h => h.2.2.2
theorem lf_RX3_39 : qLF RX3 39 3 7 .int := ⟨_, _, _, _, ck_3, by decide, qW_t (i := 44) (by decide +kernel) rfl, rfl, rfl, rfl⟩
theorem lg_RX3_9 : qLG RX3 9 3 2 := ⟨_, _, _, _, ck_3, by decide, qW_t (i := 39) (by decide +kernel) rfl, rfl⟩
theorem lg_RX3_15 : qLG RX3 15 3 3 := ⟨_, _, _, _, ck_3, by decide, qW_t (i := 40) (by decide +kernel) rfl, rfl⟩
theorem lg_RX3_20 : qLG RX3 20 3 4 := ⟨_, _, _, _, ck_3, by decide, qW_t (i := 41) (by decide +kernel) rfl, rfl⟩
theorem lm_RX3_42 : Cond.methodLink RX3 42 yX3_hasStation ∈ qW := qW_t (i := 407) (by decide +kernel) rfl
theorem lc_RX3_46 : Cond.constant RX3 46 (1000000) ∈ qW := qW_t (i := 487) (by decide +kernel) rfl
theorem lm_RX3_47 : Cond.methodLink RX3 47 yX3_has ∈ qW := qW_t (i := 483) (by decide +kernel) rfl
theorem lm_RX3_51 : ∀ U, qNest U → va_Nw (.methodLinkNest RX3 51 yX7_isValue "ShiftMender") U := fun U h => h.2.2.1
theorem lm_RX3_54 : Cond.methodLink RX3 54 yX3_squaredDistance ∈ qW := qW_t (i := 516) (by decide +kernel) rfl
theorem lm_RX3_58 : Cond.methodLink RX3 58 yX3_rank ∈ qW := qW_t (i := 532) (by decide +kernel) rfl
theorem lm_RX3_61 : Cond.methodLink RX3 61 yX3_arePair ∈ qW := qW_t (i := 790) (by decide +kernel) rfl
theorem lf_RX4_22 : qLF RX4 22 4 1 .int := ⟨_, _, _, _, ck_4, by decide, qW_t (i := 65) (by decide +kernel) rfl, rfl, rfl, rfl⟩
theorem lg_RX4_9 : qLG RX4 9 4 0 := ⟨_, _, _, _, ck_4, by decide, qW_t (i := 64) (by decide +kernel) rfl, rfl⟩
theorem lg_RX4_18 : qLG RX4 18 4 2 := ⟨_, _, _, _, ck_4, by decide, qW_t (i := 66) (by decide +kernel) rfl, rfl⟩
theorem lm_RX4_26 : Cond.methodLink RX4 26 yX3_startAfresh ∈ qW := qW_t (i := 265) (by decide +kernel) rfl
theorem lm_RX4_29 : Cond.methodLink RX4 29 yX4_readItem ∈ qW := qW_t (i := 271) (by decide +kernel) rfl
theorem lm_RX4_33 : Cond.methodLink RX4 33 yX4_readYears ∈ qW := qW_t (i := 275) (by decide +kernel) rfl
theorem lm_RX4_36 : Cond.methodLink RX4 36 yX3_years ∈ qW := qW_t (i := 291) (by decide +kernel) rfl
theorem lm_RX4_40 : Cond.methodLink RX4 40 yX4_readStation ∈ qW := qW_t (i := 295) (by decide +kernel) rfl
theorem lm_RX4_43 : Cond.methodLink RX4 43 yX4_readPenalty ∈ qW := qW_t (i := 312) (by decide +kernel) rfl
theorem lm_RX4_46 : Cond.methodLink RX4 46 yX4_readRules ∈ qW := qW_t (i := 320) (by decide +kernel) rfl
theorem lm_RX4_49 : Cond.methodLink RX4 49 yX4_signAt ∈ qW := qW_t (i := 279) (by decide +kernel) rfl
theorem lm_RX4_52 : Cond.methodLink RX4 52 yX4_endsAt ∈ qW := qW_t (i := 283) (by decide +kernel) rfl
theorem lm_RX4_56 : Cond.methodLink RX4 56 yX3_setYears ∈ qW := qW_t (i := 287) (by decide +kernel) rfl
theorem lm_RX4_60 : Cond.methodLink RX4 60 yX3_addStation ∈ qW := qW_t (i := 299) (by decide +kernel) rfl
theorem lm_RX4_64 : Cond.methodLink RX4 64 yX3_stations ∈ qW := qW_t (i := 303) (by decide +kernel) rfl
theorem lc_RX4_67 : Cond.constant RX4 67 (1000000) ∈ qW := qW_t (i := 307) (by decide +kernel) rfl
theorem lm_RX4_68 : Cond.methodLink RX4 68 yX3_put ∈ qW := qW_t (i := 308) (by decide +kernel) rfl
theorem lm_RX4_72 : Cond.methodLink RX4 72 yX3_setBreakPenalty ∈ qW := qW_t (i := 316) (by decide +kernel) rfl
theorem lm_RX4_75 : ∀ U, qNest U → va_Nw (.methodLinkNest RX4 75 yX7_isRule "ShiftMender") U := fun U h => h.1
theorem lm_RX4_78 : Cond.methodLink RX4 78 yX3_setRule ∈ qW := qW_t (i := 331) (by decide +kernel) rfl
theorem lg_RX5_28 : qLG RX5 28 5 0 := ⟨_, _, _, _, ck_5, by decide, qW_t (i := 105) (by decide +kernel) rfl, rfl⟩
theorem lm_RX5_32 : Cond.methodLink RX5 32 yX6_length ∈ qW := qW_t (i := 586) (by decide +kernel) rfl
theorem lc_RX5_38 : Cond.constantLong RX5 38 (720720) ∈ qW := qW_t (i := 587) (by decide +kernel) rfl
theorem lg_RX5_9 : qLG RX5 9 5 1 := ⟨_, _, _, _, ck_5, by decide, qW_t (i := 106) (by decide +kernel) rfl, rfl⟩
theorem lg_RX5_15 : qLG RX5 15 5 2 := ⟨_, _, _, _, ck_5, by decide, qW_t (i := 107) (by decide +kernel) rfl, rfl⟩
theorem lg_RX5_19 : qLG RX5 19 5 3 := ⟨_, _, _, _, ck_5, by decide, qW_t (i := 108) (by decide +kernel) rfl, rfl⟩
theorem lm_RX5_40 : Cond.methodLink RX5 40 yX5_fitFrom ∈ qW := qW_t (i := 588) (by decide +kernel) rfl
theorem lm_RX5_44 : Cond.methodLink RX5 44 yX5_keepStarts ∈ qW := qW_t (i := 593) (by decide +kernel) rfl
theorem lm_RX5_47 : Cond.methodLink RX5 47 yX6_scaledSpread ∈ qW := qW_t (i := 592) (by decide +kernel) rfl
theorem lg_RX5_25 : qLG RX5 25 5 5 := ⟨_, _, _, _, ck_5, by decide, qW_t (i := 110) (by decide +kernel) rfl, rfl⟩
theorem lm_RX5_51 : Cond.methodLink RX5 51 yX6_yearAt ∈ qW := qW_t (i := 605) (by decide +kernel) rfl
theorem lm_RX5_55 : Cond.methodLink RX5 55 yX6_scaledMean ∈ qW := qW_t (i := 671) (by decide +kernel) rfl
theorem lc_RX5_58 : Cond.constantLong RX5 58 (-4) ∈ qW := qW_t (i := 622) (by decide +kernel) rfl
theorem lg_RX5_22 : qLG RX5 22 5 4 := ⟨_, _, _, _, ck_5, by decide, qW_t (i := 109) (by decide +kernel) rfl, rfl⟩
theorem lm_RX5_60 : Cond.methodLink RX5 60 yX5_addRun ∈ qW := qW_t (i := 623) (by decide +kernel) rfl
theorem lm_RX5_64 : Cond.methodLink RX5 64 yJ9_min_f86c9 ∈ qW := qW_t (i := 627) (by decide +kernel) rfl
theorem lf_RX6_25 : qLF RX6 25 6 0 .int := ⟨_, _, _, _, ck_6, by decide, qW_t (i := 82) (by decide +kernel) rfl, rfl, rfl, rfl⟩
theorem lm_RX6_29 : Cond.methodLink RX6 29 yX3_years ∈ qW := qW_t (i := 541) (by decide +kernel) rfl
theorem lm_RX6_34 : Cond.methodLink RX6 34 yX3_has ∈ qW := qW_t (i := 542) (by decide +kernel) rfl
theorem lm_RX6_38 : Cond.methodLink RX6 38 yX3_at ∈ qW := qW_t (i := 543) (by decide +kernel) rfl
theorem lm_RX6_42 : Cond.methodLink RX6 42 yX6_add ∈ qW := qW_t (i := 544) (by decide +kernel) rfl
theorem lg_RX6_9 : qLG RX6 9 6 1 := ⟨_, _, _, _, ck_6, by decide, qW_t (i := 83) (by decide +kernel) rfl, rfl⟩
theorem lg_RX6_15 : qLG RX6 15 6 2 := ⟨_, _, _, _, ck_6, by decide, qW_t (i := 84) (by decide +kernel) rfl, rfl⟩
theorem lg_RX6_18 : qLG RX6 18 6 3 := ⟨_, _, _, _, ck_6, by decide, qW_t (i := 85) (by decide +kernel) rfl, rfl⟩
theorem lg_RX6_22 : qLG RX6 22 6 4 := ⟨_, _, _, _, ck_6, by decide, qW_t (i := 86) (by decide +kernel) rfl, rfl⟩
theorem lc_RX6_46 : Cond.constant RX6 46 (720720) ∈ qW := qW_t (i := 573) (by decide +kernel) rfl
theorem lg_RX7_12 : qLG RX7 12 7 0 := ⟨_, _, _, _, ck_7, by decide, qW_t (i := 356) (by decide +kernel) rfl, rfl⟩
theorem lm_RX7_74 : Cond.methodLink RX7 74 yX4_append ∈ qW := qW_t (i := 253) (by decide +kernel) rfl
theorem lm_RX7_84 : Cond.methodLink RX7 84 yX4_length ∈ qW := qW_t (i := 383) (by decide +kernel) rfl
theorem lm_RX7_81 : Cond.methodLink RX7 81 yX4_clear ∈ qW := qW_t (i := 352) (by decide +kernel) rfl
theorem lm_RX7_85 : Cond.methodLink RX7 85 yX4_read ∈ qW := qW_t (i := 261) (by decide +kernel) rfl
theorem lm_RX7_78 : Cond.methodLink RX7 78 yX7_layScript ∈ qW := qW_t (i := 257) (by decide +kernel) rfl
theorem lm_RX7_88 : Cond.methodLink RX7 88 yX4_draft ∈ qW := qW_t (i := 335) (by decide +kernel) rfl
theorem lm_RX7_92 : Cond.methodLink RX7 92 yX3_stations ∈ qW := qW_t (i := 339) (by decide +kernel) rfl
theorem lg_RX7_19 : qLG RX7 19 7 1 := ⟨_, _, _, _, ck_7, by decide, qW_t (i := 357) (by decide +kernel) rfl, rfl⟩
theorem lm_RX7_95 : Cond.methodLink RX7 95 yX3_copyFrom ∈ qW := qW_t (i := 340) (by decide +kernel) rfl
theorem lg_RX7_58 : qLG RX7 58 7 6 := ⟨_, _, _, _, ck_7, by decide, qW_t (i := 362) (by decide +kernel) rfl, rfl⟩
theorem lm_RX7_99 : Cond.methodLink RX7 99 yX2_clear ∈ qW := qW_t (i := 344) (by decide +kernel) rfl
theorem lg_RX7_51 : qLG RX7 51 7 5 := ⟨_, _, _, _, ck_7, by decide, qW_t (i := 361) (by decide +kernel) rfl, rfl⟩
theorem lm_RX7_100 : Cond.methodLink RX7 100 yX1_clear ∈ qW := qW_t (i := 348) (by decide +kernel) rfl
theorem lm_RX7_101 : Cond.methodLink RX7 101 yX3_knows ∈ qW := qW_t (i := 403) (by decide +kernel) rfl
theorem lm_RX7_105 : Cond.methodLink RX7 105 yX3_at ∈ qW := qW_t (i := 411) (by decide +kernel) rfl
theorem lm_RX7_109 : Cond.methodLink RX7 109 yX7_shown ∈ qW := qW_t (i := 415) (by decide +kernel) rfl
theorem lc_RX7_113 : Cond.constant RX7 113 (1000000) ∈ qW := qW_t (i := 418) (by decide +kernel) rfl
theorem lc_RX7_114 : Cond.constant RX7 114 (100000) ∈ qW := qW_t (i := 419) (by decide +kernel) rfl
theorem lm_RX7_115 : Cond.methodLink RX7 115 yX7_isValue ∈ qW := qW_t (i := 424) (by decide +kernel) rfl
theorem lm_RX7_119 : Cond.methodLink RX7 119 yX7_changeValue ∈ qW := qW_t (i := 427) (by decide +kernel) rfl
theorem lm_RX7_123 : Cond.methodLink RX7 123 yX1_add ∈ qW := qW_t (i := 431) (by decide +kernel) rfl
theorem lm_RX7_127 : Cond.methodLink RX7 127 yX3_put ∈ qW := qW_t (i := 439) (by decide +kernel) rfl
theorem lm_RX7_131 : Cond.methodLink RX7 131 yX7_isPenalty ∈ qW := qW_t (i := 448) (by decide +kernel) rfl
theorem lm_RX7_134 : Cond.methodLink RX7 134 yX3_breakPenalty ∈ qW := qW_t (i := 452) (by decide +kernel) rfl
theorem lm_RX7_137 : Cond.methodLink RX7 137 yX3_setBreakPenalty ∈ qW := qW_t (i := 456) (by decide +kernel) rfl
theorem lc_RX7_141 : Cond.constant RX7 141 (99999) ∈ qW := qW_t (i := 451) (by decide +kernel) rfl
theorem lm_RX7_142 : Cond.methodLink RX7 142 yX7_isRule ∈ qW := qW_t (i := 461) (by decide +kernel) rfl
theorem lm_RX7_145 : Cond.methodLink RX7 145 yX3_ruleOf ∈ qW := qW_t (i := 462) (by decide +kernel) rfl
theorem lm_RX7_148 : Cond.methodLink RX7 148 yX3_setRule ∈ qW := qW_t (i := 466) (by decide +kernel) rfl
theorem ls_RX7_152 : Cond.fieldLink RX7 152 "ShiftMender" (qtn 0) "[I" ∈ qW := qW_t (i := 327) (by decide +kernel) rfl
theorem ls_RX7_156 : Cond.fieldLink RX7 156 "ShiftMender" (qtn 1) "[I" ∈ qW := qW_t (i := 329) (by decide +kernel) rfl
theorem lm_RX7_159 : Cond.methodLink RX7 159 yX1_length ∈ qW := qW_t (i := 471) (by decide +kernel) rfl
theorem lm_RX7_160 : Cond.methodLink RX7 160 yX1_latest ∈ qW := qW_t (i := 475) (by decide +kernel) rfl
theorem lm_RX7_163 : Cond.methodLink RX7 163 yX3_shiftEarlier ∈ qW := qW_t (i := 479) (by decide +kernel) rfl
theorem lm_RX7_166 : Cond.methodLink RX7 166 yX2_dropLast ∈ qW := qW_t (i := 488) (by decide +kernel) rfl
theorem lm_RX7_169 : Cond.methodLink RX7 169 yX1_dropLatest ∈ qW := qW_t (i := 492) (by decide +kernel) rfl
theorem lc_RX7_172 : Cond.constantLong RX7 172 (7919) ∈ qW := qW_t (i := 500) (by decide +kernel) rfl
theorem lc_RX7_174 : Cond.constantLong RX7 174 (6151) ∈ qW := qW_t (i := 501) (by decide +kernel) rfl
theorem lc_RX7_176 : Cond.constantLong RX7 176 (65521) ∈ qW := qW_t (i := 502) (by decide +kernel) rfl
theorem lm_RX7_178 : Cond.methodLink RX7 178 yX7_remainder ∈ qW := qW_t (i := 503) (by decide +kernel) rfl
theorem lm_RX7_181 : Cond.methodLink RX7 181 yX3_years ∈ qW := qW_t (i := 506) (by decide +kernel) rfl
theorem lm_RX7_184 : Cond.methodLink RX7 184 yX3_hasStation ∈ qW := qW_t (i := 511) (by decide +kernel) rfl
theorem lm_RX7_187 : Cond.methodLink RX7 187 yX3_rank ∈ qW := qW_t (i := 512) (by decide +kernel) rfl
theorem lm_RX7_190 : Cond.methodLink RX7 190 yX7_areTwoStations ∈ qW := qW_t (i := 524) (by decide +kernel) rfl
theorem lm_RX7_193 : Cond.methodLink RX7 193 yX3_arePair ∈ qW := qW_t (i := 528) (by decide +kernel) rfl
theorem lg_RX7_26 : qLG RX7 26 7 2 := ⟨_, _, _, _, ck_7, by decide, qW_t (i := 358) (by decide +kernel) rfl, rfl⟩
theorem lm_RX7_196 : Cond.methodLink RX7 196 yX6_compare ∈ qW := qW_t (i := 537) (by decide +kernel) rfl
theorem lm_RX7_200 : Cond.methodLink RX7 200 yX6_length ∈ qW := qW_t (i := 548) (by decide +kernel) rfl
theorem lm_RX7_201 : Cond.methodLink RX7 201 yX6_entryAt ∈ qW := qW_t (i := 552) (by decide +kernel) rfl
theorem lm_RX7_204 : Cond.methodLink RX7 204 yX6_yearAt ∈ qW := qW_t (i := 560) (by decide +kernel) rfl
theorem lc_RX7_207 : Cond.constantLong RX7 207 (-1) ∈ qW := qW_t (i := 568) (by decide +kernel) rfl
theorem lm_RX7_209 : Cond.methodLink RX7 209 yX6_scaledSpread ∈ qW := qW_t (i := 569) (by decide +kernel) rfl
theorem lm_RX7_213 : Cond.methodLink RX7 213 yX7_segment ∈ qW := qW_t (i := 578) (by decide +kernel) rfl
theorem lg_RX7_35 : qLG RX7 35 7 3 := ⟨_, _, _, _, ck_7, by decide, qW_t (i := 359) (by decide +kernel) rfl, rfl⟩
theorem lm_RX7_216 : Cond.methodLink RX7 216 yX5_breakCount ∈ qW := qW_t (i := 597) (by decide +kernel) rfl
theorem lm_RX7_219 : Cond.methodLink RX7 219 yX5_breakYear ∈ qW := qW_t (i := 601) (by decide +kernel) rfl
theorem lm_RX7_222 : Cond.methodLink RX7 222 yX5_fit ∈ qW := qW_t (i := 582) (by decide +kernel) rfl
theorem lm_RX7_225 : Cond.methodLink RX7 225 yX5_scaledCost ∈ qW := qW_t (i := 610) (by decide +kernel) rfl
theorem lm_RX7_229 : Cond.methodLink RX7 229 yX5_scaledSpreads ∈ qW := qW_t (i := 618) (by decide +kernel) rfl
theorem lc_RX7_232 : Cond.constant RX7 232 (65536) ∈ qW := qW_t (i := 638) (by decide +kernel) rfl
theorem lg_RX7_44 : qLG RX7 44 7 4 := ⟨_, _, _, _, ck_7, by decide, qW_t (i := 360) (by decide +kernel) rfl, rfl⟩
theorem lm_RX7_233 : Cond.methodLink RX7 233 yX0_refresh ∈ qW := qW_t (i := 643) (by decide +kernel) rfl
theorem lm_RX7_236 : Cond.methodLink RX7 236 yX0_votesCast ∈ qW := qW_t (i := 706) (by decide +kernel) rfl
theorem lm_RX7_239 : Cond.methodLink RX7 239 yX0_length ∈ qW := qW_t (i := 714) (by decide +kernel) rfl
theorem lm_RX7_240 : Cond.methodLink RX7 240 yX0_property ∈ qW := qW_t (i := 718) (by decide +kernel) rfl
theorem lm_RX7_243 : Cond.methodLink RX7 243 yX7_mendCulprit ∈ qW := qW_t (i := 726) (by decide +kernel) rfl
theorem lm_RX7_246 : Cond.methodLink RX7 246 yX2_isFull ∈ qW := qW_t (i := 730) (by decide +kernel) rfl
theorem lm_RX7_250 : Cond.methodLink RX7 250 yX3_canShiftEarlier ∈ qW := qW_t (i := 734) (by decide +kernel) rfl
theorem lm_RX7_253 : Cond.methodLink RX7 253 yX2_add ∈ qW := qW_t (i := 739) (by decide +kernel) rfl
theorem lm_RX7_255 : Cond.methodLink RX7 255 yX2_length ∈ qW := qW_t (i := 744) (by decide +kernel) rfl
theorem lm_RX7_256 : Cond.methodLink RX7 256 yX2_property ∈ qW := qW_t (i := 756) (by decide +kernel) rfl
theorem lm_RX7_257 : Cond.methodLink RX7 257 yX7_estimate ∈ qW := qW_t (i := 764) (by decide +kernel) rfl
theorem lm_RX7_260 : Cond.methodLink RX7 260 yX3_has ∈ qW := qW_t (i := 768) (by decide +kernel) rfl
theorem lc_RX7_263 : Cond.constantLong RX7 263 (720720) ∈ qW := qW_t (i := 691) (by decide +kernel) rfl
theorem lm_RX7_265 : Cond.methodLink RX7 265 yX6_scaledMean ∈ qW := qW_t (i := 769) (by decide +kernel) rfl
theorem lm_RX7_268 : Cond.methodLink RX7 268 yX7_roundedMean ∈ qW := qW_t (i := 770) (by decide +kernel) rfl
theorem lc_RX7_272 : Cond.constantLong RX7 272 (2) ∈ qW := qW_t (i := 692) (by decide +kernel) rfl
theorem lm_RX7_274 : Cond.methodLink RX7 274 yJ9_floorDiv_f86c9 ∈ qW := qW_t (i := 693) (by decide +kernel) rfl
theorem lm_RX7_280 : Cond.methodLink RX7 280 yX7_direction ∈ qW := qW_t (i := 779) (by decide +kernel) rfl
theorem lm_RX7_283 : Cond.methodLink RX7 283 yX3_countPairs ∈ qW := qW_t (i := 786) (by decide +kernel) rfl
theorem lm_RX7_286 : Cond.methodLink RX7 286 yX3_countMissing ∈ qW := qW_t (i := 791) (by decide +kernel) rfl
theorem lf_RX8_91 : qLF RX8 91 8 7 .int := ⟨_, _, _, _, ck_8, by decide, qW_t (i := 829) (by decide +kernel) rfl, rfl, rfl, rfl⟩
theorem lf_RX8_71 : qLF RX8 71 8 8 .int := ⟨_, _, _, _, ck_8, by decide, qW_t (i := 830) (by decide +kernel) rfl, rfl, rfl, rfl⟩
theorem lg_RX8_28 : qLG RX8 28 8 11 := ⟨_, _, _, _, ck_8, by decide, qW_t (i := 833) (by decide +kernel) rfl, rfl⟩
theorem lc_RX8_83 : Cond.constant RX8 83 (99999) ∈ qW := qW_t (i := 805) (by decide +kernel) rfl
theorem lm_RX8_84 : Cond.methodLink RX8 84 yX8_rulesAre ∈ qW := qW_t (i := 806) (by decide +kernel) rfl
theorem lg_RX8_22 : qLG RX8 22 8 9 := ⟨_, _, _, _, ck_8, by decide, qW_t (i := 831) (by decide +kernel) rfl, rfl⟩
theorem lg_RX8_25 : qLG RX8 25 8 10 := ⟨_, _, _, _, ck_8, by decide, qW_t (i := 832) (by decide +kernel) rfl, rfl⟩
theorem lc_RX8_94 : Cond.constantLong RX8 94 (32) ∈ qW := qW_t (i := 920) (by decide +kernel) rfl
theorem lc_RX8_96 : Cond.constantLong RX8 96 (126) ∈ qW := qW_t (i := 921) (by decide +kernel) rfl
theorem lm_RX8_98 : Cond.methodLink RX8 98 yX8_in ∈ qW := qW_t (i := 922) (by decide +kernel) rfl
theorem lf_RX8_102 : qLF RX8 102 8 0 .int := ⟨_, _, _, _, ck_8, by decide, qW_t (i := 822) (by decide +kernel) rfl, rfl, rfl, rfl⟩
theorem lg_RX8_7 : qLG RX8 7 8 1 := ⟨_, _, _, _, ck_8, by decide, qW_t (i := 823) (by decide +kernel) rfl, rfl⟩
theorem lf_RX8_105 : qLF RX8 105 8 15 .int := ⟨_, _, _, _, ck_8, by decide, qW_t (i := 837) (by decide +kernel) rfl, rfl, rfl, rfl⟩
theorem lm_RX8_108 : Cond.methodLink RX8 108 yX8_letterAt ∈ qW := qW_t (i := 937) (by decide +kernel) rfl
theorem lc_RX8_112 : Cond.constantLong RX8 112 (48) ∈ qW := qW_t (i := 949) (by decide +kernel) rfl
theorem lc_RX8_114 : Cond.constantLong RX8 114 (57) ∈ qW := qW_t (i := 950) (by decide +kernel) rfl
theorem lc_RX8_116 : Cond.constantLong RX8 116 (97) ∈ qW := qW_t (i := 951) (by decide +kernel) rfl
theorem lc_RX8_118 : Cond.constantLong RX8 118 (115) ∈ qW := qW_t (i := 952) (by decide +kernel) rfl
theorem lm_RX8_120 : Cond.methodLink RX8 120 yX8_sign ∈ qW := qW_t (i := 945) (by decide +kernel) rfl
theorem lm_RX8_124 : Cond.methodLink RX8 124 yX8_ends ∈ qW := qW_t (i := 953) (by decide +kernel) rfl
theorem lm_RX8_75 : Cond.methodLink RX8 75 yX8_stationIs ∈ qW := qW_t (i := 810) (by decide +kernel) rfl
theorem lm_RX8_128 : Cond.methodLink RX8 128 yX8_stationItem ∈ qW := qW_t (i := 961) (by decide +kernel) rfl
theorem lm_RX8_131 : Cond.methodLink RX8 131 yX8_penaltyItem ∈ qW := qW_t (i := 965) (by decide +kernel) rfl
theorem lm_RX8_134 : Cond.methodLink RX8 134 yX8_rulesItem ∈ qW := qW_t (i := 969) (by decide +kernel) rfl
theorem lm_RX8_68 : Cond.methodLink RX8 68 yX8_empty ∈ qW := qW_t (i := 801) (by decide +kernel) rfl
theorem lm_RX8_137 : Cond.methodLink RX8 137 yX8_yearsItem ∈ qW := qW_t (i := 941) (by decide +kernel) rfl
theorem lm_RX8_140 : Cond.methodLink RX8 140 yX8_item ∈ qW := qW_t (i := 957) (by decide +kernel) rfl
theorem lm_RX8_144 : Cond.methodLink RX8 144 yX8_readAll ∈ qW := qW_t (i := 933) (by decide +kernel) rfl
theorem lm_RX8_88 : Cond.methodLink RX8 88 yX8_begin ∈ qW := qW_t (i := 818) (by decide +kernel) rfl
theorem lf_RX8_148 : qLF RX8 148 8 2 .int := ⟨_, _, _, _, ck_8, by decide, qW_t (i := 824) (by decide +kernel) rfl, rfl, rfl, rfl⟩
theorem lf_RX8_151 : qLF RX8 151 8 3 .int := ⟨_, _, _, _, ck_8, by decide, qW_t (i := 825) (by decide +kernel) rfl, rfl, rfl, rfl⟩
theorem lg_RX8_13 : qLG RX8 13 8 4 := ⟨_, _, _, _, ck_8, by decide, qW_t (i := 826) (by decide +kernel) rfl, rfl⟩
theorem lg_RX8_16 : qLG RX8 16 8 5 := ⟨_, _, _, _, ck_8, by decide, qW_t (i := 827) (by decide +kernel) rfl, rfl⟩
theorem lg_RX8_19 : qLG RX8 19 8 6 := ⟨_, _, _, _, ck_8, by decide, qW_t (i := 828) (by decide +kernel) rfl, rfl⟩
theorem lf_RX8_154 : qLF RX8 154 8 13 .int := ⟨_, _, _, _, ck_8, by decide, qW_t (i := 835) (by decide +kernel) rfl, rfl, rfl, rfl⟩
theorem lf_RX8_157 : qLF RX8 157 8 22 .boolean := ⟨_, _, _, _, ck_8, by decide, qW_t (i := 844) (by decide +kernel) rfl, rfl, rfl, rfl⟩
theorem lm_RX8_161 : Cond.methodLink RX8 161 yX8_isStation ∈ qW := qW_t (i := 981) (by decide +kernel) rfl
theorem lm_RX8_164 : Cond.methodLink RX8 164 yX8_valueOf ∈ qW := qW_t (i := 989) (by decide +kernel) rfl
theorem lc_RX8_167 : Cond.constant RX8 167 (100000) ∈ qW := qW_t (i := 996) (by decide +kernel) rfl
theorem lg_RX8_31 : qLG RX8 31 8 12 := ⟨_, _, _, _, ck_8, by decide, qW_t (i := 834) (by decide +kernel) rfl, rfl⟩
theorem lm_RX8_168 : Cond.methodLink RX8 168 yX8_note ∈ qW := qW_t (i := 1007) (by decide +kernel) rfl
theorem lm_RX8_171 : Cond.methodLink RX8 171 yX8_isYear ∈ qW := qW_t (i := 985) (by decide +kernel) rfl
theorem lm_RX8_174 : Cond.methodLink RX8 174 yX8_told ∈ qW := qW_t (i := 993) (by decide +kernel) rfl
theorem lc_RX8_177 : Cond.constantLong RX8 177 (-9999) ∈ qW := qW_t (i := 1001) (by decide +kernel) rfl
theorem lc_RX8_179 : Cond.constantLong RX8 179 (9999) ∈ qW := qW_t (i := 1002) (by decide +kernel) rfl
theorem lm_RX8_181 : Cond.methodLink RX8 181 yX8_change ∈ qW := qW_t (i := 1003) (by decide +kernel) rfl
theorem lm_RX8_184 : Cond.methodLink RX8 184 yX8_isThere ∈ qW := qW_t (i := 1015) (by decide +kernel) rfl
theorem lc_RX8_188 : Cond.constantLong RX8 188 (99999) ∈ qW := qW_t (i := 1023) (by decide +kernel) rfl
theorem lc_RX8_190 : Cond.constantLong RX8 190 (4) ∈ qW := qW_t (i := 1028) (by decide +kernel) rfl
theorem lc_RX8_192 : Cond.constantLong RX8 192 (2) ∈ qW := qW_t (i := 1029) (by decide +kernel) rfl
theorem lc_RX8_194 : Cond.constantLong RX8 194 (5) ∈ qW := qW_t (i := 1030) (by decide +kernel) rfl
theorem lc_RX8_196 : Cond.constantLong RX8 196 (20) ∈ qW := qW_t (i := 1039) (by decide +kernel) rfl
theorem lc_RX8_198 : Cond.constantLong RX8 198 (7919) ∈ qW := qW_t (i := 1040) (by decide +kernel) rfl
theorem lc_RX8_200 : Cond.constantLong RX8 200 (6151) ∈ qW := qW_t (i := 1041) (by decide +kernel) rfl
theorem lc_RX8_202 : Cond.constantLong RX8 202 (65521) ∈ qW := qW_t (i := 1042) (by decide +kernel) rfl
theorem lm_RX8_204 : Cond.methodLink RX8 204 yX8_square ∈ qW := qW_t (i := 1051) (by decide +kernel) rfl
theorem lm_RX8_207 : Cond.methodLink RX8 207 yX8_rankOf ∈ qW := qW_t (i := 1047) (by decide +kernel) rfl
theorem lm_RX8_210 : Cond.methodLink RX8 210 yX8_areTwo ∈ qW := qW_t (i := 1059) (by decide +kernel) rfl
theorem lm_RX8_213 : Cond.methodLink RX8 213 yX8_isPair ∈ qW := qW_t (i := 1063) (by decide +kernel) rfl
theorem lf_RX8_216 : qLF RX8 216 8 16 .int := ⟨_, _, _, _, ck_8, by decide, qW_t (i := 838) (by decide +kernel) rfl, rfl, rfl, rfl⟩
theorem lg_RX8_37 : qLG RX8 37 8 17 := ⟨_, _, _, _, ck_8, by decide, qW_t (i := 839) (by decide +kernel) rfl, rfl⟩
theorem lg_RX8_41 : qLG RX8 41 8 18 := ⟨_, _, _, _, ck_8, by decide, qW_t (i := 840) (by decide +kernel) rfl, rfl⟩
theorem lm_RX8_219 : Cond.methodLink RX8 219 yX8_sumOf ∈ qW := qW_t (i := 1088) (by decide +kernel) rfl
theorem lc_RX8_223 : Cond.constantLong RX8 223 (720720) ∈ qW := qW_t (i := 1092) (by decide +kernel) rfl
theorem lc_RX8_225 : Cond.constant RX8 225 (720720) ∈ qW := qW_t (i := 1093) (by decide +kernel) rfl
theorem lm_RX8_226 : Cond.methodLink RX8 226 yX8_rowOf ∈ qW := qW_t (i := 1071) (by decide +kernel) rfl
theorem lg_RX8_44 : qLG RX8 44 8 19 := ⟨_, _, _, _, ck_8, by decide, qW_t (i := 841) (by decide +kernel) rfl, rfl⟩
theorem lc_RX8_229 : Cond.constantLong RX8 229 (1152921504606846976) ∈ qW := qW_t (i := 1106) (by decide +kernel) rfl
theorem lm_RX8_231 : Cond.methodLink RX8 231 yX8_spreadOf ∈ qW := qW_t (i := 1084) (by decide +kernel) rfl
theorem lm_RX8_234 : Cond.methodLink RX8 234 yX8_learn ∈ qW := qW_t (i := 1102) (by decide +kernel) rfl
theorem lm_RX8_237 : Cond.methodLink RX8 237 yX8_breaksBy ∈ qW := qW_t (i := 1107) (by decide +kernel) rfl
theorem lf_RX8_240 : qLF RX8 240 8 20 .int := ⟨_, _, _, _, ck_8, by decide, qW_t (i := 842) (by decide +kernel) rfl, rfl, rfl, rfl⟩
theorem lg_RX8_47 : qLG RX8 47 8 21 := ⟨_, _, _, _, ck_8, by decide, qW_t (i := 843) (by decide +kernel) rfl, rfl⟩
theorem lc_RX8_243 : Cond.constantLong RX8 243 (-1) ∈ qW := qW_t (i := 1083) (by decide +kernel) rfl
theorem lm_RX8_245 : Cond.methodLink RX8 245 yX8_findBest ∈ qW := qW_t (i := 1098) (by decide +kernel) rfl
theorem lc_RX8_248 : Cond.constantLong RX8 248 (-4) ∈ qW := qW_t (i := 1119) (by decide +kernel) rfl
theorem lg_RX8_50 : qLG RX8 50 8 23 := ⟨_, _, _, _, ck_8, by decide, qW_t (i := 845) (by decide +kernel) rfl, rfl⟩
theorem lg_RX8_53 : qLG RX8 53 8 24 := ⟨_, _, _, _, ck_8, by decide, qW_t (i := 846) (by decide +kernel) rfl, rfl⟩
theorem lm_RX8_250 : Cond.methodLink RX8 250 yX8_has ∈ qW := qW_t (i := 1144) (by decide +kernel) rfl
theorem lg_RX8_56 : qLG RX8 56 8 26 := ⟨_, _, _, _, ck_8, by decide, qW_t (i := 848) (by decide +kernel) rfl, rfl⟩
theorem lf_RX8_253 : qLF RX8 253 8 25 .int := ⟨_, _, _, _, ck_8, by decide, qW_t (i := 847) (by decide +kernel) rfl, rfl, rfl, rfl⟩
theorem lg_RX8_59 : qLG RX8 59 8 27 := ⟨_, _, _, _, ck_8, by decide, qW_t (i := 849) (by decide +kernel) rfl, rfl⟩
theorem lg_RX8_65 : qLG RX8 65 8 29 := ⟨_, _, _, _, ck_8, by decide, qW_t (i := 851) (by decide +kernel) rfl, rfl⟩
theorem lm_RX8_256 : Cond.methodLink RX8 256 yX8_withWhom ∈ qW := qW_t (i := 1140) (by decide +kernel) rfl
theorem lg_RX8_62 : qLG RX8 62 8 28 := ⟨_, _, _, _, ck_8, by decide, qW_t (i := 850) (by decide +kernel) rfl, rfl⟩
theorem lm_RX8_260 : Cond.methodLink RX8 260 yX8_ones ∈ qW := qW_t (i := 1147) (by decide +kernel) rfl
theorem lm_RX8_263 : Cond.methodLink RX8 263 yX8_findBreaks ∈ qW := qW_t (i := 1136) (by decide +kernel) rfl
theorem lm_RX8_266 : Cond.methodLink RX8 266 yX8_finds ∈ qW := qW_t (i := 1150) (by decide +kernel) rfl
theorem lm_RX8_269 : Cond.methodLink RX8 269 yX8_know ∈ qW := qW_t (i := 1132) (by decide +kernel) rfl
theorem lm_RX8_272 : Cond.methodLink RX8 272 yX8_rises ∈ qW := qW_t (i := 1163) (by decide +kernel) rfl
theorem lm_RX8_276 : Cond.methodLink RX8 276 yX8_nearestOf ∈ qW := qW_t (i := 1167) (by decide +kernel) rfl
theorem lc_RX8_280 : Cond.constantLong RX8 280 (3) ∈ qW := qW_t (i := 1158) (by decide +kernel) rfl
theorem lm_RX8_282 : Cond.methodLink RX8 282 yX8_sizeOf ∈ qW := qW_t (i := 1159) (by decide +kernel) rfl
theorem lg_RX8_34 : qLG RX8 34 8 14 := ⟨_, _, _, _, ck_8, by decide, qW_t (i := 836) (by decide +kernel) rfl, rfl⟩
theorem lm_RX8_285 : Cond.methodLink RX8 285 yX8_mend ∈ qW := qW_t (i := 1178) (by decide +kernel) rfl
theorem lf_RX8_288 : qLF RX8 288 8 30 .int := ⟨_, _, _, _, ck_8, by decide, qW_t (i := 852) (by decide +kernel) rfl, rfl, rfl, rfl⟩
theorem lm_RX8_291 : Cond.methodLink RX8 291 yX8_canMake ∈ qW := qW_t (i := 1187) (by decide +kernel) rfl
theorem lm_RX8_294 : Cond.methodLink RX8 294 yX8_pairs ∈ qW := qW_t (i := 1203) (by decide +kernel) rfl
theorem lm_RX8_297 : Cond.methodLink RX8 297 yX8_missing ∈ qW := qW_t (i := 1207) (by decide +kernel) rfl
end
section

-- rows in small whole numbers
section QN
variable {g : Nat} {w : qWT} {mt : qMT} {pc : Nat} {L : List (Nat × Value)} {st : List Value} {M : qMem} {Q : qQ}
theorem R_iaddN {a b : Nat} (hd : decode (m_b mt) pc = .ok (.iadd, 1)) (kk : qRW g w mt (pc + 1) L (.int (nI (a + b)) :: st) M Q) : qRW g w mt pc L (.int (nI b) :: .int (nI a) :: st) M Q := R_iadd hd (R_top (nI_add a b) kk)
theorem R_isubN {a b : Nat} (hd : decode (m_b mt) pc = .ok (.isub, 1)) (h : b ≤ a) (kk : qRW g w mt (pc + 1) L (.int (nI (a - b)) :: st) M Q) : qRW g w mt pc L (.int (nI b) :: .int (nI a) :: st) M Q := R_isub hd (R_top (pk_sub h) kk)
theorem R_imulN {a b : Nat} (hd : decode (m_b mt) pc = .ok (.imul, 1)) (kk : qRW g w mt (pc + 1) L (.int (nI (a * b)) :: st) M Q) : qRW g w mt pc L (.int (nI b) :: .int (nI a) :: st) M Q := R_imul hd (R_top (pk_mul a b) kk)
theorem R_idivN {a b : Nat} (hd : decode (m_b mt) pc = .ok (.idiv, 1)) (ha : a < 2147483648) (h0 : 0 < b) (hb : b < 2147483648) (kk : qRW g w mt (pc + 1) L (.int (nI (a / b)) :: st) M Q) : qRW g w mt pc L (.int (nI b) :: .int (nI a) :: st) M Q := R_idiv hd (nI_ne0 h0 hb) (R_top (pk_div ha h0 hb) kk)
theorem R_iremN {a b : Nat} (hd : decode (m_b mt) pc = .ok (.irem, 1)) (ha : a < 2147483648) (h0 : 0 < b) (hb : b < 2147483648) (kk : qRW g w mt (pc + 1) L (.int (nI (a % b)) :: st) M Q) : qRW g w mt pc L (.int (nI b) :: .int (nI a) :: st) M Q := R_irem hd (nI_ne0 h0 hb) (R_top (pk_rem ha h0 hb) kk)
theorem q_inc (a n : Nat) : nI a + Int32.ofInt (n : Int) = nI (a + n) := by
  rw [← nI_add]; congr 1
theorem q_dec (a : Nat) (h : 1 ≤ a) : nI a + Int32.ofInt (-1) = nI (a - 1) := by
  obtain ⟨b, rfl⟩ : ∃ b, a = b + 1 := ⟨a - 1, by omega⟩
  exact pk_m1 b
theorem R_iincN {i : Nat} {n a : Nat} {L' : List (Nat × Value)} (hd : decode (m_b mt) pc = .ok (.iinc i (n : Int), 3)) (hl : qget L i = some (.int (nI a))) (hi : i < m_n mt) (hs : qsub (qput L i (.int (nI (a + n)))) L') (kk : qRW g w mt (pc + 3) L' st M Q) : qRW g w mt pc L st M Q := R_iinc hd hl (q_inc a n) hi hs kk
theorem R_idecN {i : Nat} {a : Nat} {L' : List (Nat × Value)} (hd : decode (m_b mt) pc = .ok (.iinc i (-1), 3)) (hl : qget L i = some (.int (nI a))) (h : 1 ≤ a) (hi : i < m_n mt) (hs : qsub (qput L i (.int (nI (a - 1)))) L') (kk : qRW g w mt (pc + 3) L' st M Q) : qRW g w mt pc L st M Q := R_iinc hd hl (q_dec a h) hi hs kk
theorem R_icmp_eqN {a b : Nat} {off : Int} {tgt : Nat} (hd : decode (m_b mt) pc = .ok (.if_icmp .eq off, 3)) (ht : (pc : Int) + off = (tgt : Int)) (ha : a < 2147483648) (hb : b < 2147483648) (kt : a = b → qRW g w mt tgt L st M Q) (kf : a ≠ b → qRW g w mt (pc + 3) L st M Q) : qRW g w mt pc L (.int (nI b) :: .int (nI a) :: st) M Q := R_icmp_eq hd ht (fun z => kt ((nI_eq ha hb).mp z)) (fun z => kf (fun e => z ((nI_eq ha hb).mpr e)))
theorem R_icmp_neN {a b : Nat} {off : Int} {tgt : Nat} (hd : decode (m_b mt) pc = .ok (.if_icmp .ne off, 3)) (ht : (pc : Int) + off = (tgt : Int)) (ha : a < 2147483648) (hb : b < 2147483648) (kt : a ≠ b → qRW g w mt tgt L st M Q) (kf : a = b → qRW g w mt (pc + 3) L st M Q) : qRW g w mt pc L (.int (nI b) :: .int (nI a) :: st) M Q := R_icmp_ne hd ht (fun z => kt (fun e => z ((nI_eq ha hb).mpr e))) (fun z => kf ((nI_eq ha hb).mp z))
theorem R_icmp_ltN {a b : Nat} {off : Int} {tgt : Nat} (hd : decode (m_b mt) pc = .ok (.if_icmp .lt off, 3)) (ht : (pc : Int) + off = (tgt : Int)) (ha : a < 2147483648) (hb : b < 2147483648) (kt : a < b → qRW g w mt tgt L st M Q) (kf : b ≤ a → qRW g w mt (pc + 3) L st M Q) : qRW g w mt pc L (.int (nI b) :: .int (nI a) :: st) M Q := R_icmp_lt hd ht (fun z => kt ((nI_ltI ha hb).mp z)) (fun z => kf (Nat.not_lt.mp fun e => z ((nI_ltI ha hb).mpr e)))
theorem R_icmp_geN {a b : Nat} {off : Int} {tgt : Nat} (hd : decode (m_b mt) pc = .ok (.if_icmp .ge off, 3)) (ht : (pc : Int) + off = (tgt : Int)) (ha : a < 2147483648) (hb : b < 2147483648) (kt : b ≤ a → qRW g w mt tgt L st M Q) (kf : a < b → qRW g w mt (pc + 3) L st M Q) : qRW g w mt pc L (.int (nI b) :: .int (nI a) :: st) M Q := R_icmp_ge hd ht (fun z => kt ((nI_leI hb ha).mp z)) (fun z => kf (Nat.not_le.mp fun e => z ((nI_leI hb ha).mpr e)))
theorem R_icmp_gtN {a b : Nat} {off : Int} {tgt : Nat} (hd : decode (m_b mt) pc = .ok (.if_icmp .gt off, 3)) (ht : (pc : Int) + off = (tgt : Int)) (ha : a < 2147483648) (hb : b < 2147483648) (kt : b < a → qRW g w mt tgt L st M Q) (kf : a ≤ b → qRW g w mt (pc + 3) L st M Q) : qRW g w mt pc L (.int (nI b) :: .int (nI a) :: st) M Q := R_icmp_gt hd ht (fun z => kt ((nI_ltI hb ha).mp z)) (fun z => kf (Nat.not_lt.mp fun e => z ((nI_ltI hb ha).mpr e)))
theorem R_icmp_leN {a b : Nat} {off : Int} {tgt : Nat} (hd : decode (m_b mt) pc = .ok (.if_icmp .le off, 3)) (ht : (pc : Int) + off = (tgt : Int)) (ha : a < 2147483648) (hb : b < 2147483648) (kt : a ≤ b → qRW g w mt tgt L st M Q) (kf : b < a → qRW g w mt (pc + 3) L st M Q) : qRW g w mt pc L (.int (nI b) :: .int (nI a) :: st) M Q := R_icmp_le hd ht (fun z => kt ((nI_leI ha hb).mp z)) (fun z => kf (Nat.not_le.mp fun e => z ((nI_leI ha hb).mpr e)))
theorem R_if_eqN {a : Nat} {off : Int} {tgt : Nat} (hd : decode (m_b mt) pc = .ok (.ifCond .eq off, 3)) (ht : (pc : Int) + off = (tgt : Int)) (ha : a < 2147483648) (kt : a = 0 → qRW g w mt tgt L st M Q) (kf : 0 < a → qRW g w mt (pc + 3) L st M Q) : qRW g w mt pc L (.int (nI a) :: st) M Q := R_if_eq hd ht (fun z => kt ((nI_eq ha (by omega)).mp z)) (fun z => kf (Nat.pos_of_ne_zero fun e => z (by rw [e]; rfl)))
theorem R_if_neN {a : Nat} {off : Int} {tgt : Nat} (hd : decode (m_b mt) pc = .ok (.ifCond .ne off, 3)) (ht : (pc : Int) + off = (tgt : Int)) (ha : a < 2147483648) (kt : 0 < a → qRW g w mt tgt L st M Q) (kf : a = 0 → qRW g w mt (pc + 3) L st M Q) : qRW g w mt pc L (.int (nI a) :: st) M Q := R_if_ne hd ht (fun z => kt (Nat.pos_of_ne_zero fun e => z (by rw [e]; rfl))) (fun z => kf ((nI_eq ha (by omega)).mp z))
theorem R_if_gtN {a : Nat} {off : Int} {tgt : Nat} (hd : decode (m_b mt) pc = .ok (.ifCond .gt off, 3)) (ht : (pc : Int) + off = (tgt : Int)) (ha : a < 2147483648) (kt : 0 < a → qRW g w mt tgt L st M Q) (kf : a = 0 → qRW g w mt (pc + 3) L st M Q) : qRW g w mt pc L (.int (nI a) :: st) M Q := R_if_gt hd ht (fun z => kt ((nI_ltI (by omega) ha).mp z)) (fun z => kf (Nat.le_zero.mp (Nat.not_lt.mp fun e => z ((nI_ltI (a := 0) (by omega) ha).mpr e))))
theorem R_if_leN {a : Nat} {off : Int} {tgt : Nat} (hd : decode (m_b mt) pc = .ok (.ifCond .le off, 3)) (ht : (pc : Int) + off = (tgt : Int)) (ha : a < 2147483648) (kt : a = 0 → qRW g w mt tgt L st M Q) (kf : 0 < a → qRW g w mt (pc + 3) L st M Q) : qRW g w mt pc L (.int (nI a) :: st) M Q := R_if_le hd ht (fun z => kt (Nat.le_zero.mp ((nI_leI (b := 0) ha (by omega)).mp z))) (fun z => kf (Nat.pos_of_ne_zero fun e => z (by rw [e]; exact (nI_leI (a := 0) (b := 0) (by omega) (by omega)).mpr (Nat.le_refl 0))))
theorem R_aald3C {o n b j r : Nat} (hd : decode (m_b mt) pc = .ok (.aaload, 1)) (ho : o < qN g) (hs : qsh g o = .inr (n, 3, b)) (hj : j < n) (hn : n < 2147483648) (hr : b + j = r) (kk : qRW g w mt (pc + 1) L (.ref r :: st) M Q) : qRW g w mt pc L (.int (nI j) :: .ref o :: st) M Q := R_aald3N hd ho hs hj hn (by rw [hr]; exact kk)
theorem R_aald4C {o n b j r : Nat} (hd : decode (m_b mt) pc = .ok (.aaload, 1)) (ho : o < qN g) (hs : qsh g o = .inr (n, 4, b)) (hj : j < n) (hn : n < 2147483648) (hr : b + j = r) (kk : qRW g w mt (pc + 1) L (.ref r :: st) M Q) : qRW g w mt pc L (.int (nI j) :: .ref o :: st) M Q := R_aald4N hd ho hs hj hn (by rw [hr]; exact kk)
theorem R_if_geN {a : Nat} {off : Int} {tgt : Nat} (hd : decode (m_b mt) pc = .ok (.ifCond .ge off, 3)) (ht : (pc : Int) + off = (tgt : Int)) (ha : a < 2147483648) (kt : qRW g w mt tgt L st M Q) : qRW g w mt pc L (.int (nI a) :: st) M Q := R_if_ge hd ht (fun _ => kt) (fun z => absurd (nI_pos' ha) z)
theorem R_if_ltN {a : Nat} {off : Int} {tgt : Nat} (hd : decode (m_b mt) pc = .ok (.ifCond .lt off, 3)) (ht : (pc : Int) + off = (tgt : Int)) (ha : a < 2147483648) (kf : qRW g w mt (pc + 3) L st M Q) : qRW g w mt pc L (.int (nI a) :: st) M Q := R_if_lt hd ht (fun z => absurd z (nI_pos ha)) (fun _ => kf)
-- lcmp and the branch behind it
theorem R_lc_ge {x y : Int64} {off : Int} {tgt : Nat} (hd : decode (m_b mt) pc = .ok (.lcmp, 1)) (hd2 : decode (m_b mt) (pc + 1) = .ok (.ifCond .ge off, 3)) (ht : (pc : Int) + 1 + off = (tgt : Int)) (kt : y ≤ x → qRW g w mt tgt L st M Q) (kf : ¬ y ≤ x → qRW g w mt (pc + 1 + 3) L st M Q) : qRW g w mt pc L (.long y :: .long x :: st) M Q := R_lcmp hd (R_if_ge hd2 (by rw [← ht]; rfl) (fun z => kt ((lg_cmp_ge x y).mp z)) (fun z => kf (fun e => z ((lg_cmp_ge x y).mpr e))))
theorem R_lc_le {x y : Int64} {off : Int} {tgt : Nat} (hd : decode (m_b mt) pc = .ok (.lcmp, 1)) (hd2 : decode (m_b mt) (pc + 1) = .ok (.ifCond .le off, 3)) (ht : (pc : Int) + 1 + off = (tgt : Int)) (kt : x ≤ y → qRW g w mt tgt L st M Q) (kf : ¬ x ≤ y → qRW g w mt (pc + 1 + 3) L st M Q) : qRW g w mt pc L (.long y :: .long x :: st) M Q := R_lcmp hd (R_if_le hd2 (by rw [← ht]; rfl) (fun z => kt ((lg_cmp_le x y).mp z)) (fun z => kf (fun e => z ((lg_cmp_le x y).mpr e))))
theorem R_lc_gt {x y : Int64} {off : Int} {tgt : Nat} (hd : decode (m_b mt) pc = .ok (.lcmp, 1)) (hd2 : decode (m_b mt) (pc + 1) = .ok (.ifCond .gt off, 3)) (ht : (pc : Int) + 1 + off = (tgt : Int)) (kt : y < x → qRW g w mt tgt L st M Q) (kf : ¬ y < x → qRW g w mt (pc + 1 + 3) L st M Q) : qRW g w mt pc L (.long y :: .long x :: st) M Q := R_lcmp hd (R_if_gt hd2 (by rw [← ht]; rfl) (fun z => kt ((lg_cmp_gt x y).mp z)) (fun z => kf (fun e => z ((lg_cmp_gt x y).mpr e))))
theorem R_lc_lt {x y : Int64} {off : Int} {tgt : Nat} (hd : decode (m_b mt) pc = .ok (.lcmp, 1)) (hd2 : decode (m_b mt) (pc + 1) = .ok (.ifCond .lt off, 3)) (ht : (pc : Int) + 1 + off = (tgt : Int)) (kt : x < y → qRW g w mt tgt L st M Q) (kf : ¬ x < y → qRW g w mt (pc + 1 + 3) L st M Q) : qRW g w mt pc L (.long y :: .long x :: st) M Q := R_lcmp hd (R_if_lt hd2 (by rw [← ht]; rfl) (fun z => kt ((lg_cmp_lt x y).mp z)) (fun z => kf (fun e => z ((lg_cmp_lt x y).mpr e))))
theorem R_lc_eq {x y : Int64} {off : Int} {tgt : Nat} (hd : decode (m_b mt) pc = .ok (.lcmp, 1)) (hd2 : decode (m_b mt) (pc + 1) = .ok (.ifCond .eq off, 3)) (ht : (pc : Int) + 1 + off = (tgt : Int)) (kt : x = y → qRW g w mt tgt L st M Q) (kf : ¬ x = y → qRW g w mt (pc + 1 + 3) L st M Q) : qRW g w mt pc L (.long y :: .long x :: st) M Q := R_lcmp hd (R_if_eq hd2 (by rw [← ht]; rfl) (fun z => kt ((lg_cmp_eq x y).mp z)) (fun z => kf (fun e => z ((lg_cmp_eq x y).mpr e))))
theorem R_lc_ne {x y : Int64} {off : Int} {tgt : Nat} (hd : decode (m_b mt) pc = .ok (.lcmp, 1)) (hd2 : decode (m_b mt) (pc + 1) = .ok (.ifCond .ne off, 3)) (ht : (pc : Int) + 1 + off = (tgt : Int)) (kt : ¬ x = y → qRW g w mt tgt L st M Q) (kf : x = y → qRW g w mt (pc + 1 + 3) L st M Q) : qRW g w mt pc L (.long y :: .long x :: st) M Q := R_lcmp hd (R_if_ne hd2 (by rw [← ht]; rfl) (fun z => kt (fun e => z ((lg_cmp_eq x y).mpr e))) (fun z => kf ((lg_cmp_eq x y).mp z)))
end QN
-- answers as posts
abbrev qr (x : Int32) (N : qMem) : qQ := fun v M => v = some (.int x) ∧ N = M
abbrev ql (x : Int64) (N : qMem) : qQ := fun v M => v = some (.long x) ∧ N = M
abbrev qv (N : qMem) : qQ := fun v M => v = none ∧ N = M
/-- a truth value: both cases at once -/
abbrev qb (P : Prop) (N : qMem) : qQ := fun v M => N = M ∧ ((v = some (.int (nI 1)) ∧ P) ∨ (v = some (.int (nI 0)) ∧ ¬ P))
/-- memory the same off some objects -/
def qOff (S : Nat → Prop) (M N : qMem) : Prop := ∀ o, ¬ S o → N.1 o = M.1 o ∧ N.2 o = M.2 o
theorem qOff.rf {S : Nat → Prop} {M : qMem} : qOff S M M := fun _ _ => ⟨rfl, rfl⟩
theorem qOff.tr {S : Nat → Prop} {M N K : qMem} (h1 : qOff S M N) (h2 : qOff S N K) : qOff S M K := fun o h => ⟨((h2 o h).1).trans (h1 o h).1, ((h2 o h).2).trans (h1 o h).2⟩
theorem qOff.mono {S T : Nat → Prop} {M N : qMem} (h : qOff S M N) (hs : ∀ o, S o → T o) : qOff T M N := fun o ho => h o (fun z => ho (hs o z))
theorem qOff.is {S : Nat → Prop} {M N : qMem} {o k : Nat} {x : Int32} (h : qOff S M N) (hs : S o) : qOff S M (qIs N o k x) := fun a ha => by
  have e : a ≠ o := fun z => ha (by rw [z]; exact hs)
  exact ⟨by rw [qIs_no e]; exact (h a ha).1, (h a ha).2⟩
theorem qOff.ls {S : Nat → Prop} {M N : qMem} {o k : Nat} {x : Int64} (h : qOff S M N) (hs : S o) : qOff S M (qLs N o k x) := fun a ha => by
  have e : a ≠ o := fun z => ha (by rw [z]; exact hs)
  exact ⟨(h a ha).1, by rw [qLs_no e]; exact (h a ha).2⟩
end
section

-- ===== the data of a record, as mathematics =====
/-- years, stations, X, Y, values, numbers (0 R, 1 N, 2 T, 3 W, 4 the penalty) -/
abbrev dT : Type := Nat × Nat × (Nat → Int32) × (Nat → Int32) × (Nat → Nat → Option Int32) × (Nat → Nat)
def dY (d : dT) : Nat := d.1
def dK (d : dT) : Nat := d.2.1
def dX (d : dT) : Nat → Int32 := d.2.2.1
def dZ (d : dT) : Nat → Int32 := d.2.2.2.1
def dV (d : dT) : Nat → Nat → Option Int32 := d.2.2.2.2.1
def dR (d : dT) : Nat → Nat := d.2.2.2.2.2
def okv (v : Int32) : Prop := -9999 ≤ v.toInt ∧ v.toInt ≤ 9999
def dB (d : dT) : Prop := dY d ≤ 16 ∧ dK d ≤ 6 ∧ (∀ c t v, dV d c t = some v → okv v) ∧ (1 ≤ dR d 0 ∧ dR d 0 ≤ 4) ∧ (1 ≤ dR d 1 ∧ dR d 1 ≤ 5) ∧ (1 ≤ dR d 2 ∧ dR d 2 ≤ 5) ∧ dR d 3 ≤ 2 ∧ dR d 4 ≤ 99999
def encX (o : Option Int32) : Int32 := match o with
  | none => 1000000
  | some v => v
def encM (o : Option Int32) : Int32 := match o with
  | none => 99999
  | some v => v
theorem okv_X {v : Int32} (h : okv v) : v ≠ 1000000 := by
  intro e; subst e
  exact absurd h (by unfold okv; decide)
theorem okv_M {v : Int32} (h : okv v) : v ≠ 99999 := by
  intro e; subst e
  exact absurd h (by unfold okv; decide)
theorem encX_ne {o : Option Int32} (h : ∀ v, o = some v → okv v) : encX o ≠ 1000000 ↔ o.isSome = true := by
  cases o with
  | none => simp [encX]
  | some v => simp [encX, okv_X (h v rfl)]
theorem encM_ne {o : Option Int32} (h : ∀ v, o = some v → okv v) : encM o ≠ 99999 ↔ o.isSome = true := by
  cases o with
  | none => simp [encM]
  | some v => simp [encM, okv_M (h v rfl)]
theorem okv_iff {v : Int32} : okv v ↔ ((-9999 : Int32) ≤ v ∧ v ≤ (9999 : Int32)) := by
  unfold okv
  rw [Int32.le_iff_toInt_le, Int32.le_iff_toInt_le]
  exact Iff.rfl
def qShift (M : qMem) (c y : Nat) (s : Int32) : qMem := (fun o k => if o = 19 + c ∧ k < y ∧ ¬ M.1 (19 + c) k = 1000000 then M.1 o k + s else M.1 o k, M.2)
-- distances, ranks, pairs
def sqd (d : dT) (u v : Nat) : Int32 := (dX d u - dX d v) * (dX d u - dX d v) + (dZ d u - dZ d v) * (dZ d u - dZ d v)
def nearr (d : dT) (c o q : Nat) : Bool := decide (q ≠ c) && (decide (sqd d c q < sqd d c o) || (decide (sqd d c q = sqd d c o) && decide (q < o)))
def rnkTo (d : dT) (c o : Nat) : Nat → Nat
  | 0 => 0
  | q + 1 => rnkTo d c o q + (if nearr d c o q then 1 else 0)
def rnk (d : dT) (c o : Nat) : Nat := rnkTo d c o (dK d)
theorem rnkTo_le (d : dT) (c o : Nat) : ∀ n, rnkTo d c o n ≤ n
  | 0 => Nat.le_refl 0
  | n + 1 => by
    have := rnkTo_le d c o n
    unfold rnkTo
    split <;> omega
def prb (d : dT) (u v : Nat) : Bool := decide (rnk d u v < dR d 1) || decide (rnk d v u < dR d 1)
theorem prb_comm (d : dT) (u v : Nat) : prb d u v = prb d v u := Bool.or_comm _ _
theorem prb_iff (d : dT) (u v : Nat) : prb d u v = true ↔ (rnk d u v < dR d 1 ∨ rnk d v u < dR d 1) := by simp [prb]
def cpIn (d : dT) (u : Nat) : Nat → Nat
  | 0 => 0
  | v + 1 => cpIn d u v + (if decide (u < v) && prb d u v then 1 else 0)
def cpTo (d : dT) : Nat → Nat
  | 0 => 0
  | u + 1 => cpTo d u + cpIn d u (dK d)
theorem cpIn_le (d : dT) (u : Nat) : ∀ n, cpIn d u n ≤ n
  | 0 => Nat.le_refl 0
  | n + 1 => by
    have := cpIn_le d u n
    unfold cpIn
    split <;> omega
theorem cpIn_0 (d : dT) (u : Nat) : ∀ n, n ≤ u + 1 → cpIn d u n = 0
  | 0, _ => rfl
  | n + 1, h => by
    unfold cpIn
    rw [cpIn_0 d u n (by omega)]
    have : ¬ u < n := by omega
    simp [this]
theorem cpTo_le (d : dT) : ∀ n, cpTo d n ≤ n * dK d
  | 0 => by simp [cpTo]
  | n + 1 => by
    have := cpTo_le d n
    have h2 := cpIn_le d n (dK d)
    unfold cpTo
    rw [Nat.succ_mul]; omega
def msIn (d : dT) (c : Nat) : Nat → Nat
  | 0 => 0
  | t + 1 => msIn d c t + (if (dV d c t).isSome then 0 else 1)
def msTo (d : dT) : Nat → Nat
  | 0 => 0
  | c + 1 => msTo d c + msIn d c (dY d)
theorem msIn_le (d : dT) (c : Nat) : ∀ n, msIn d c n ≤ n
  | 0 => Nat.le_refl 0
  | n + 1 => by
    have := msIn_le d c n
    unfold msIn
    split <;> omega
theorem msTo_le (d : dT) : ∀ n, msTo d n ≤ n * dY d
  | 0 => by simp [msTo]
  | n + 1 => by
    have := msTo_le d n
    have h2 := msIn_le d n (dY d)
    unfold msTo
    rw [Nat.succ_mul]; omega
-- series
def serAt (d : dT) (u v t : Nat) : Option (Nat × Int32) := match dV d u t, dV d v t with
  | some a, some b => some (t, a - b)
  | _, _ => none
def serTo (d : dT) (u v n : Nat) : List (Nat × Int32) := (List.range n).filterMap (serAt d u v)
def ser (d : dT) (u v : Nat) : List (Nat × Int32) := serTo d u v (dY d)
theorem serTo_succ (d : dT) (u v n : Nat) : serTo d u v (n + 1) = serTo d u v n ++ (serAt d u v n).toList := by
  unfold serTo
  rw [List.range_succ, List.filterMap_append]
  cases h : serAt d u v n <;> simp [h]
theorem serTo_len (d : dT) (u v n : Nat) : (serTo d u v n).length ≤ n := by
  unfold serTo
  have := List.length_filterMap_le (serAt d u v) (List.range n)
  simpa using this
def yr (l : List (Nat × Int32)) (i : Nat) : Nat := (l.getD i (0, 0)).1
def en (l : List (Nat × Int32)) (i : Nat) : Int32 := (l.getD i (0, 0)).2
def S1 (l : List (Nat × Int32)) : Nat → Int64
  | 0 => 0
  | i + 1 => S1 l i + (en l i).toInt64
def S2 (l : List (Nat × Int32)) : Nat → Int64
  | 0 => 0
  | i + 1 => S2 l i + (en l i).toInt64 * (en l i).toInt64
theorem en_app {l : List (Nat × Int32)} {x : Nat × Int32} {i : Nat} (h : i < l.length) : en (l ++ [x]) i = en l i := by
  simp [en, List.getD_eq_getElem?_getD, List.getElem?_append_left h]
theorem yr_app {l : List (Nat × Int32)} {x : Nat × Int32} {i : Nat} (h : i < l.length) : yr (l ++ [x]) i = yr l i := by
  simp [yr, List.getD_eq_getElem?_getD, List.getElem?_append_left h]
theorem en_last {l : List (Nat × Int32)} {x : Nat × Int32} : en (l ++ [x]) l.length = x.2 := by
  simp [en, List.getD_eq_getElem?_getD]
theorem yr_last {l : List (Nat × Int32)} {x : Nat × Int32} : yr (l ++ [x]) l.length = x.1 := by
  simp [yr, List.getD_eq_getElem?_getD]
theorem S1_app {l : List (Nat × Int32)} {x : Nat × Int32} : ∀ {i : Nat}, i ≤ l.length → S1 (l ++ [x]) i = S1 l i
  | 0, _ => rfl
  | i + 1, h => by unfold S1; rw [S1_app (by omega), en_app (by omega)]
theorem S2_app {l : List (Nat × Int32)} {x : Nat × Int32} : ∀ {i : Nat}, i ≤ l.length → S2 (l ++ [x]) i = S2 l i
  | 0, _ => rfl
  | i + 1, h => by unfold S2; rw [S2_app (by omega), en_app (by omega)]
/-- the spread of the entries i to before j, 720720 times -/
def sz (i j : Nat) : Int64 := (nI (j - i)).toInt64
def sc (i j : Nat) : Int64 := (nI (720720 / (j - i))).toInt64
def spd (l : List (Nat × Int32)) (i j : Nat) : Int64 := if j ≤ i then 0 else (sz i j * (S2 l j - S2 l i) - (S1 l j - S1 l i) * (S1 l j - S1 l i)) * sc i j
def mea (l : List (Nat × Int32)) (i j : Nat) : Int64 := if j ≤ i then 0 else (S1 l j - S1 l i) * sc i j
-- the memory of a record
def XR (r : Nat) (M : qMem) (d : dT) : Prop := M.1 r 0 = nI (dY d) ∧ M.1 r 1 = nI (dK d) ∧ (∀ c, c < dK d → M.1 (r + 1) c = dX d c) ∧ (∀ c, c < dK d → M.1 (r + 2) c = dZ d c) ∧ (∀ c t, c < dK d → t < dY d → M.1 (r + 5 + c) t = encX (dV d c t)) ∧ M.1 r 5 = nI (dR d 4) ∧ (∀ k, k < 4 → M.1 (r + 4) k = nI (dR d k))
/-- the series' memory holds l -/
def XS (M : qMem) (l : List (Nat × Int32)) : Prop := M.1 25 0 = nI l.length ∧ l.length ≤ 16 ∧ (∀ i, i < l.length → M.1 26 i = en l i ∧ M.1 27 i = nI (yr l i)) ∧ (∀ i, i ≤ l.length → M.2 28 i = S1 l i ∧ M.2 29 i = S2 l i)
end
section
set_option maxRecDepth 100000 in
set_option maxHeartbeats 4000000 in
theorem c_years_3 {M : qMem} : qSem 0 mX3_years [.ref 3] M (qr (M.1 3 0) M) := by
  refine qSem.of (by decide +kernel) (Nat.le_of_ble_eq_true rfl) (fun w => ?_)
  refine R_ls (L' := [(0, .ref 3)]) (qs1 rfl qs0) ?_
  refine R_aload_n dX3_years_0 rfl ?_
  refine R_getI dX3_years_1 (lf_RX3_26).get (by decide) rfl rfl ?_
  refine R_ireturn dX3_years_4 rfl rfl ?_
  exact ⟨rfl, rfl⟩
set_option maxRecDepth 100000 in
set_option maxHeartbeats 4000000 in
theorem c_stations_3 {M : qMem} : qSem 0 mX3_stations [.ref 3] M (qr (M.1 3 1) M) := by
  refine qSem.of (by decide +kernel) (Nat.le_of_ble_eq_true rfl) (fun w => ?_)
  refine R_ls (L' := [(0, .ref 3)]) (qs1 rfl qs0) ?_
  refine R_aload_n dX3_stations_0 rfl ?_
  refine R_getI dX3_stations_1 (lf_RX3_30).get (by decide) rfl rfl ?_
  refine R_ireturn dX3_stations_4 rfl rfl ?_
  exact ⟨rfl, rfl⟩
set_option maxRecDepth 100000 in
set_option maxHeartbeats 4000000 in
theorem c_version_3 {M : qMem} : qSem 0 mX3_version [.ref 3] M (qr (M.1 3 7) M) := by
  refine qSem.of (by decide +kernel) (Nat.le_of_ble_eq_true rfl) (fun w => ?_)
  refine R_ls (L' := [(0, .ref 3)]) (qs1 rfl qs0) ?_
  refine R_aload_n dX3_version_0 rfl ?_
  refine R_getI dX3_version_1 (lf_RX3_39).get (by decide) rfl rfl ?_
  refine R_ireturn dX3_version_4 rfl rfl ?_
  exact ⟨rfl, rfl⟩
set_option maxRecDepth 100000 in
set_option maxHeartbeats 4000000 in
theorem c_breakPenalty_3 {M : qMem} : qSem 0 mX3_breakPenalty [.ref 3] M (qr (M.1 3 5) M) := by
  refine qSem.of (by decide +kernel) (Nat.le_of_ble_eq_true rfl) (fun w => ?_)
  refine R_ls (L' := [(0, .ref 3)]) (qs1 rfl qs0) ?_
  refine R_aload_n dX3_breakPenalty_0 rfl ?_
  refine R_getI dX3_breakPenalty_1 (lf_RX3_33).get (by decide) rfl rfl ?_
  refine R_ireturn dX3_breakPenalty_4 rfl rfl ?_
  exact ⟨rfl, rfl⟩
set_option maxRecDepth 100000 in
set_option maxHeartbeats 4000000 in
theorem c_ruleOf_3 {M : qMem} {k : Nat} (hk : k < 4) : qSem 0 mX3_ruleOf [.ref 3, .int (nI k)] M (qr (M.1 7 k) M) := by
  refine qSem.of (by decide +kernel) (Nat.le_of_ble_eq_true rfl) (fun w => ?_)
  refine R_ls (L' := [(0, .ref 3), (1, .int (nI k))]) (qs1 rfl (qs1 rfl qs0)) ?_
  refine R_aload_n dX3_ruleOf_0 rfl ?_
  refine R_getR dX3_ruleOf_1 lg_RX3_23 (by decide) rfl rfl ?_
  refine R_iload_n dX3_ruleOf_4 rfl ?_
  refine R_ialdN dX3_ruleOf_5 (by decide) rfl (by omega) (by decide) ?_
  refine R_ireturn dX3_ruleOf_6 rfl rfl ?_
  exact ⟨rfl, rfl⟩
set_option maxRecDepth 100000 in
set_option maxHeartbeats 4000000 in
theorem c_has_3 {M : qMem} {c t : Nat} (hc : c < 6) (ht : t < 16) : qSem 0 mX3_has [.ref 3, .int (nI c), .int (nI t)] M (qb (¬ M.1 (8 + c) t = 1000000) M) := by
  refine qSem.of (by decide +kernel) (Nat.le_of_ble_eq_true rfl) (fun w => ?_)
  refine R_ls (L' := [(0, .ref 3), (1, .int (nI c)), (2, .int (nI t))]) (qs1 rfl (qs1 rfl (qs1 rfl qs0))) ?_
  refine R_aload_n dX3_has_0 rfl ?_
  refine R_getR dX3_has_1 lg_RX3_20 (by decide) rfl rfl ?_
  refine R_iload_n dX3_has_4 rfl ?_
  refine R_aald3N dX3_has_5 (by decide) rfl (by omega) (by decide) ?_
  refine R_iload_n dX3_has_6 rfl ?_
  refine R_ialdN dX3_has_7 (show 8 + c < 101 by have := ((by omega) : c < 6); omega) (sh_val3 (by omega)) (by omega) (by decide) ?_
  refine R_ldc (v := nI 1000000) dX3_has_8 lc_RX3_46 ?_
  refine R_icmp_eq (tgt := 17) dX3_has_10 (by decide) (fun h_10 => ?_) (fun h_10 => ?_)
  · refine R_iconst (v := nI 0) dX3_has_17 rfl ?_
    refine R_ireturn dX3_has_18 rfl rfl ?_
    exact ⟨rfl, Or.inr ⟨rfl, fun e => e h_10⟩⟩
  · refine R_iconst (v := nI 1) dX3_has_13 rfl ?_
    refine R_goto (tgt := 18) dX3_has_14 (by decide) ?_
    refine R_ireturn dX3_has_18 rfl rfl ?_
    exact ⟨rfl, Or.inl ⟨rfl, h_10⟩⟩
set_option maxRecDepth 100000 in
set_option maxHeartbeats 4000000 in
theorem c_at_3 {M : qMem} {c t : Nat} (hc : c < 6) (ht : t < 16) : qSem 0 mX3_at [.ref 3, .int (nI c), .int (nI t)] M (qr (M.1 (8 + c) t) M) := by
  refine qSem.of (by decide +kernel) (Nat.le_of_ble_eq_true rfl) (fun w => ?_)
  refine R_ls (L' := [(0, .ref 3), (1, .int (nI c)), (2, .int (nI t))]) (qs1 rfl (qs1 rfl (qs1 rfl qs0))) ?_
  refine R_aload_n dX3_at_0 rfl ?_
  refine R_getR dX3_at_1 lg_RX3_20 (by decide) rfl rfl ?_
  refine R_iload_n dX3_at_4 rfl ?_
  refine R_aald3N dX3_at_5 (by decide) rfl (by omega) (by decide) ?_
  refine R_iload_n dX3_at_6 rfl ?_
  refine R_ialdN dX3_at_7 (show 8 + c < 101 by have := ((by omega) : c < 6); omega) (sh_val3 (by omega)) (by omega) (by decide) ?_
  refine R_ireturn dX3_at_8 rfl rfl ?_
  exact ⟨rfl, rfl⟩
set_option maxRecDepth 100000 in
set_option maxHeartbeats 4000000 in
theorem c_put_3 {M : qMem} {c t : Nat} {x : Int32} (hc : c < 6) (ht : t < 16) : qSem 0 mX3_put [.ref 3, .int (nI c), .int (nI t), .int (x)] M (qv (qIs (qIs M (8 + c) t x) 3 7 (M.1 3 7 + nI 1))) := by
  refine qSem.of (by decide +kernel) (Nat.le_of_ble_eq_true rfl) (fun w => ?_)
  refine R_ls (L' := [(0, .ref 3), (1, .int (nI c)), (2, .int (nI t)), (3, .int (x))]) (qs1 rfl (qs1 rfl (qs1 rfl (qs1 rfl qs0)))) ?_
  refine R_aload_n dX3_put_0 rfl ?_
  refine R_getR dX3_put_1 lg_RX3_20 (by decide) rfl rfl ?_
  refine R_iload_n dX3_put_4 rfl ?_
  refine R_aald3N dX3_put_5 (by decide) rfl (by omega) (by decide) ?_
  refine R_iload_n dX3_put_6 rfl ?_
  refine R_iload_n dX3_put_7 rfl ?_
  refine R_iastN dX3_put_8 (show 8 + c < 101 by have := ((by omega) : c < 6); omega) (sh_val3 (by omega)) (by omega) (by decide) ?_
  refine R_aload_n dX3_put_9 rfl ?_
  refine R_dup dX3_put_10 rfl ?_
  refine R_getI dX3_put_11 (lf_RX3_39).get (by decide) rfl rfl ?_
  refine R_iconst (v := nI 1) dX3_put_14 rfl ?_
  refine R_iadd dX3_put_15 ?_
  refine R_putI dX3_put_16 lf_RX3_39 (by decide) rfl rfl rfl rfl ?_
  refine R_return dX3_put_19 rfl ?_
  exact ⟨rfl, by rw [qIs_no (by omega)]⟩
set_option maxRecDepth 100000 in
set_option maxHeartbeats 4000000 in
theorem c_setPen_3 {M : qMem} {x : Int32} : qSem 0 mX3_setBreakPenalty [.ref 3, .int (x)] M (qv (qIs (qIs M 3 5 x) 3 7 (M.1 3 7 + nI 1))) := by
  refine qSem.of (by decide +kernel) (Nat.le_of_ble_eq_true rfl) (fun w => ?_)
  refine R_ls (L' := [(0, .ref 3), (1, .int (x))]) (qs1 rfl (qs1 rfl qs0)) ?_
  refine R_aload_n dX3_setBreakPenalty_0 rfl ?_
  refine R_iload_n dX3_setBreakPenalty_1 rfl ?_
  refine R_putI dX3_setBreakPenalty_2 lf_RX3_33 (by decide) rfl rfl rfl rfl ?_
  refine R_aload_n dX3_setBreakPenalty_5 rfl ?_
  refine R_dup dX3_setBreakPenalty_6 rfl ?_
  refine R_getI dX3_setBreakPenalty_7 (lf_RX3_39).get (by decide) rfl rfl ?_
  refine R_iconst (v := nI 1) dX3_setBreakPenalty_10 rfl ?_
  refine R_iadd dX3_setBreakPenalty_11 ?_
  refine R_putI dX3_setBreakPenalty_12 lf_RX3_39 (by decide) rfl rfl rfl rfl ?_
  refine R_return dX3_setBreakPenalty_15 rfl ?_
  exact ⟨rfl, by rw [qIs_nk (by decide)]⟩
set_option maxRecDepth 100000 in
set_option maxHeartbeats 4000000 in
theorem c_setRule_3 {M : qMem} {k : Nat} {x : Int32} (hk : k < 4) : qSem 0 mX3_setRule [.ref 3, .int (nI k), .int (x)] M (qv (qIs (qIs M 7 k x) 3 7 (M.1 3 7 + nI 1))) := by
  refine qSem.of (by decide +kernel) (Nat.le_of_ble_eq_true rfl) (fun w => ?_)
  refine R_ls (L' := [(0, .ref 3), (1, .int (nI k)), (2, .int (x))]) (qs1 rfl (qs1 rfl (qs1 rfl qs0))) ?_
  refine R_aload_n dX3_setRule_0 rfl ?_
  refine R_getR dX3_setRule_1 lg_RX3_23 (by decide) rfl rfl ?_
  refine R_iload_n dX3_setRule_4 rfl ?_
  refine R_iload_n dX3_setRule_5 rfl ?_
  refine R_iastN dX3_setRule_6 (by decide) rfl (by omega) (by decide) ?_
  refine R_aload_n dX3_setRule_7 rfl ?_
  refine R_dup dX3_setRule_8 rfl ?_
  refine R_getI dX3_setRule_9 (lf_RX3_39).get (by decide) rfl rfl ?_
  refine R_iconst (v := nI 1) dX3_setRule_12 rfl ?_
  refine R_iadd dX3_setRule_13 ?_
  refine R_putI dX3_setRule_14 lf_RX3_39 (by decide) rfl rfl rfl rfl ?_
  refine R_return dX3_setRule_17 rfl ?_
  exact ⟨rfl, by rw [qIs_no (by decide)]⟩
set_option maxRecDepth 100000 in
set_option maxHeartbeats 4000000 in
theorem c_setYears_3 {M : qMem} {x : Int32} : qSem 0 mX3_setYears [.ref 3, .int (x)] M (qv (qIs (qIs M 3 0 x) 3 7 (M.1 3 7 + nI 1))) := by
  refine qSem.of (by decide +kernel) (Nat.le_of_ble_eq_true rfl) (fun w => ?_)
  refine R_ls (L' := [(0, .ref 3), (1, .int (x))]) (qs1 rfl (qs1 rfl qs0)) ?_
  refine R_aload_n dX3_setYears_0 rfl ?_
  refine R_iload_n dX3_setYears_1 rfl ?_
  refine R_putI dX3_setYears_2 lf_RX3_26 (by decide) rfl rfl rfl rfl ?_
  refine R_aload_n dX3_setYears_5 rfl ?_
  refine R_dup dX3_setYears_6 rfl ?_
  refine R_getI dX3_setYears_7 (lf_RX3_39).get (by decide) rfl rfl ?_
  refine R_iconst (v := nI 1) dX3_setYears_10 rfl ?_
  refine R_iadd dX3_setYears_11 ?_
  refine R_putI dX3_setYears_12 lf_RX3_39 (by decide) rfl rfl rfl rfl ?_
  refine R_return dX3_setYears_15 rfl ?_
  exact ⟨rfl, by rw [qIs_nk (by decide)]⟩
set_option maxRecDepth 100000 in
set_option maxHeartbeats 4000000 in
theorem c_years_14 {M : qMem} : qSem 0 mX3_years [.ref 14] M (qr (M.1 14 0) M) := by
  refine qSem.of (by decide +kernel) (Nat.le_of_ble_eq_true rfl) (fun w => ?_)
  refine R_ls (L' := [(0, .ref 14)]) (qs1 rfl qs0) ?_
  refine R_aload_n dX3_years_0 rfl ?_
  refine R_getI dX3_years_1 (lf_RX3_26).get (by decide) rfl rfl ?_
  refine R_ireturn dX3_years_4 rfl rfl ?_
  exact ⟨rfl, rfl⟩
set_option maxRecDepth 100000 in
set_option maxHeartbeats 4000000 in
theorem c_stations_14 {M : qMem} : qSem 0 mX3_stations [.ref 14] M (qr (M.1 14 1) M) := by
  refine qSem.of (by decide +kernel) (Nat.le_of_ble_eq_true rfl) (fun w => ?_)
  refine R_ls (L' := [(0, .ref 14)]) (qs1 rfl qs0) ?_
  refine R_aload_n dX3_stations_0 rfl ?_
  refine R_getI dX3_stations_1 (lf_RX3_30).get (by decide) rfl rfl ?_
  refine R_ireturn dX3_stations_4 rfl rfl ?_
  exact ⟨rfl, rfl⟩
set_option maxRecDepth 100000 in
set_option maxHeartbeats 4000000 in
theorem c_version_14 {M : qMem} : qSem 0 mX3_version [.ref 14] M (qr (M.1 14 7) M) := by
  refine qSem.of (by decide +kernel) (Nat.le_of_ble_eq_true rfl) (fun w => ?_)
  refine R_ls (L' := [(0, .ref 14)]) (qs1 rfl qs0) ?_
  refine R_aload_n dX3_version_0 rfl ?_
  refine R_getI dX3_version_1 (lf_RX3_39).get (by decide) rfl rfl ?_
  refine R_ireturn dX3_version_4 rfl rfl ?_
  exact ⟨rfl, rfl⟩
set_option maxRecDepth 100000 in
set_option maxHeartbeats 4000000 in
theorem c_breakPenalty_14 {M : qMem} : qSem 0 mX3_breakPenalty [.ref 14] M (qr (M.1 14 5) M) := by
  refine qSem.of (by decide +kernel) (Nat.le_of_ble_eq_true rfl) (fun w => ?_)
  refine R_ls (L' := [(0, .ref 14)]) (qs1 rfl qs0) ?_
  refine R_aload_n dX3_breakPenalty_0 rfl ?_
  refine R_getI dX3_breakPenalty_1 (lf_RX3_33).get (by decide) rfl rfl ?_
  refine R_ireturn dX3_breakPenalty_4 rfl rfl ?_
  exact ⟨rfl, rfl⟩
set_option maxRecDepth 100000 in
set_option maxHeartbeats 4000000 in
theorem c_ruleOf_14 {M : qMem} {k : Nat} (hk : k < 4) : qSem 0 mX3_ruleOf [.ref 14, .int (nI k)] M (qr (M.1 18 k) M) := by
  refine qSem.of (by decide +kernel) (Nat.le_of_ble_eq_true rfl) (fun w => ?_)
  refine R_ls (L' := [(0, .ref 14), (1, .int (nI k))]) (qs1 rfl (qs1 rfl qs0)) ?_
  refine R_aload_n dX3_ruleOf_0 rfl ?_
  refine R_getR dX3_ruleOf_1 lg_RX3_23 (by decide) rfl rfl ?_
  refine R_iload_n dX3_ruleOf_4 rfl ?_
  refine R_ialdN dX3_ruleOf_5 (by decide) rfl (by omega) (by decide) ?_
  refine R_ireturn dX3_ruleOf_6 rfl rfl ?_
  exact ⟨rfl, rfl⟩
set_option maxRecDepth 100000 in
set_option maxHeartbeats 4000000 in
theorem c_has_14 {M : qMem} {c t : Nat} (hc : c < 6) (ht : t < 16) : qSem 0 mX3_has [.ref 14, .int (nI c), .int (nI t)] M (qb (¬ M.1 (19 + c) t = 1000000) M) := by
  refine qSem.of (by decide +kernel) (Nat.le_of_ble_eq_true rfl) (fun w => ?_)
  refine R_ls (L' := [(0, .ref 14), (1, .int (nI c)), (2, .int (nI t))]) (qs1 rfl (qs1 rfl (qs1 rfl qs0))) ?_
  refine R_aload_n dX3_has_0 rfl ?_
  refine R_getR dX3_has_1 lg_RX3_20 (by decide) rfl rfl ?_
  refine R_iload_n dX3_has_4 rfl ?_
  refine R_aald3N dX3_has_5 (by decide) rfl (by omega) (by decide) ?_
  refine R_iload_n dX3_has_6 rfl ?_
  refine R_ialdN dX3_has_7 (show 19 + c < 101 by have := ((by omega) : c < 6); omega) (sh_val14 (by omega)) (by omega) (by decide) ?_
  refine R_ldc (v := nI 1000000) dX3_has_8 lc_RX3_46 ?_
  refine R_icmp_eq (tgt := 17) dX3_has_10 (by decide) (fun h_10 => ?_) (fun h_10 => ?_)
  · refine R_iconst (v := nI 0) dX3_has_17 rfl ?_
    refine R_ireturn dX3_has_18 rfl rfl ?_
    exact ⟨rfl, Or.inr ⟨rfl, fun e => e h_10⟩⟩
  · refine R_iconst (v := nI 1) dX3_has_13 rfl ?_
    refine R_goto (tgt := 18) dX3_has_14 (by decide) ?_
    refine R_ireturn dX3_has_18 rfl rfl ?_
    exact ⟨rfl, Or.inl ⟨rfl, h_10⟩⟩
set_option maxRecDepth 100000 in
set_option maxHeartbeats 4000000 in
theorem c_at_14 {M : qMem} {c t : Nat} (hc : c < 6) (ht : t < 16) : qSem 0 mX3_at [.ref 14, .int (nI c), .int (nI t)] M (qr (M.1 (19 + c) t) M) := by
  refine qSem.of (by decide +kernel) (Nat.le_of_ble_eq_true rfl) (fun w => ?_)
  refine R_ls (L' := [(0, .ref 14), (1, .int (nI c)), (2, .int (nI t))]) (qs1 rfl (qs1 rfl (qs1 rfl qs0))) ?_
  refine R_aload_n dX3_at_0 rfl ?_
  refine R_getR dX3_at_1 lg_RX3_20 (by decide) rfl rfl ?_
  refine R_iload_n dX3_at_4 rfl ?_
  refine R_aald3N dX3_at_5 (by decide) rfl (by omega) (by decide) ?_
  refine R_iload_n dX3_at_6 rfl ?_
  refine R_ialdN dX3_at_7 (show 19 + c < 101 by have := ((by omega) : c < 6); omega) (sh_val14 (by omega)) (by omega) (by decide) ?_
  refine R_ireturn dX3_at_8 rfl rfl ?_
  exact ⟨rfl, rfl⟩
set_option maxRecDepth 100000 in
set_option maxHeartbeats 4000000 in
theorem c_put_14 {M : qMem} {c t : Nat} {x : Int32} (hc : c < 6) (ht : t < 16) : qSem 0 mX3_put [.ref 14, .int (nI c), .int (nI t), .int (x)] M (qv (qIs (qIs M (19 + c) t x) 14 7 (M.1 14 7 + nI 1))) := by
  refine qSem.of (by decide +kernel) (Nat.le_of_ble_eq_true rfl) (fun w => ?_)
  refine R_ls (L' := [(0, .ref 14), (1, .int (nI c)), (2, .int (nI t)), (3, .int (x))]) (qs1 rfl (qs1 rfl (qs1 rfl (qs1 rfl qs0)))) ?_
  refine R_aload_n dX3_put_0 rfl ?_
  refine R_getR dX3_put_1 lg_RX3_20 (by decide) rfl rfl ?_
  refine R_iload_n dX3_put_4 rfl ?_
  refine R_aald3N dX3_put_5 (by decide) rfl (by omega) (by decide) ?_
  refine R_iload_n dX3_put_6 rfl ?_
  refine R_iload_n dX3_put_7 rfl ?_
  refine R_iastN dX3_put_8 (show 19 + c < 101 by have := ((by omega) : c < 6); omega) (sh_val14 (by omega)) (by omega) (by decide) ?_
  refine R_aload_n dX3_put_9 rfl ?_
  refine R_dup dX3_put_10 rfl ?_
  refine R_getI dX3_put_11 (lf_RX3_39).get (by decide) rfl rfl ?_
  refine R_iconst (v := nI 1) dX3_put_14 rfl ?_
  refine R_iadd dX3_put_15 ?_
  refine R_putI dX3_put_16 lf_RX3_39 (by decide) rfl rfl rfl rfl ?_
  refine R_return dX3_put_19 rfl ?_
  exact ⟨rfl, by rw [qIs_no (by omega)]⟩
set_option maxRecDepth 100000 in
set_option maxHeartbeats 4000000 in
theorem c_setPen_14 {M : qMem} {x : Int32} : qSem 0 mX3_setBreakPenalty [.ref 14, .int (x)] M (qv (qIs (qIs M 14 5 x) 14 7 (M.1 14 7 + nI 1))) := by
  refine qSem.of (by decide +kernel) (Nat.le_of_ble_eq_true rfl) (fun w => ?_)
  refine R_ls (L' := [(0, .ref 14), (1, .int (x))]) (qs1 rfl (qs1 rfl qs0)) ?_
  refine R_aload_n dX3_setBreakPenalty_0 rfl ?_
  refine R_iload_n dX3_setBreakPenalty_1 rfl ?_
  refine R_putI dX3_setBreakPenalty_2 lf_RX3_33 (by decide) rfl rfl rfl rfl ?_
  refine R_aload_n dX3_setBreakPenalty_5 rfl ?_
  refine R_dup dX3_setBreakPenalty_6 rfl ?_
  refine R_getI dX3_setBreakPenalty_7 (lf_RX3_39).get (by decide) rfl rfl ?_
  refine R_iconst (v := nI 1) dX3_setBreakPenalty_10 rfl ?_
  refine R_iadd dX3_setBreakPenalty_11 ?_
  refine R_putI dX3_setBreakPenalty_12 lf_RX3_39 (by decide) rfl rfl rfl rfl ?_
  refine R_return dX3_setBreakPenalty_15 rfl ?_
  exact ⟨rfl, by rw [qIs_nk (by decide)]⟩
set_option maxRecDepth 100000 in
set_option maxHeartbeats 4000000 in
theorem c_setRule_14 {M : qMem} {k : Nat} {x : Int32} (hk : k < 4) : qSem 0 mX3_setRule [.ref 14, .int (nI k), .int (x)] M (qv (qIs (qIs M 18 k x) 14 7 (M.1 14 7 + nI 1))) := by
  refine qSem.of (by decide +kernel) (Nat.le_of_ble_eq_true rfl) (fun w => ?_)
  refine R_ls (L' := [(0, .ref 14), (1, .int (nI k)), (2, .int (x))]) (qs1 rfl (qs1 rfl (qs1 rfl qs0))) ?_
  refine R_aload_n dX3_setRule_0 rfl ?_
  refine R_getR dX3_setRule_1 lg_RX3_23 (by decide) rfl rfl ?_
  refine R_iload_n dX3_setRule_4 rfl ?_
  refine R_iload_n dX3_setRule_5 rfl ?_
  refine R_iastN dX3_setRule_6 (by decide) rfl (by omega) (by decide) ?_
  refine R_aload_n dX3_setRule_7 rfl ?_
  refine R_dup dX3_setRule_8 rfl ?_
  refine R_getI dX3_setRule_9 (lf_RX3_39).get (by decide) rfl rfl ?_
  refine R_iconst (v := nI 1) dX3_setRule_12 rfl ?_
  refine R_iadd dX3_setRule_13 ?_
  refine R_putI dX3_setRule_14 lf_RX3_39 (by decide) rfl rfl rfl rfl ?_
  refine R_return dX3_setRule_17 rfl ?_
  exact ⟨rfl, by rw [qIs_no (by decide)]⟩
set_option maxRecDepth 100000 in
set_option maxHeartbeats 4000000 in
theorem c_setYears_14 {M : qMem} {x : Int32} : qSem 0 mX3_setYears [.ref 14, .int (x)] M (qv (qIs (qIs M 14 0 x) 14 7 (M.1 14 7 + nI 1))) := by
  refine qSem.of (by decide +kernel) (Nat.le_of_ble_eq_true rfl) (fun w => ?_)
  refine R_ls (L' := [(0, .ref 14), (1, .int (x))]) (qs1 rfl (qs1 rfl qs0)) ?_
  refine R_aload_n dX3_setYears_0 rfl ?_
  refine R_iload_n dX3_setYears_1 rfl ?_
  refine R_putI dX3_setYears_2 lf_RX3_26 (by decide) rfl rfl rfl rfl ?_
  refine R_aload_n dX3_setYears_5 rfl ?_
  refine R_dup dX3_setYears_6 rfl ?_
  refine R_getI dX3_setYears_7 (lf_RX3_39).get (by decide) rfl rfl ?_
  refine R_iconst (v := nI 1) dX3_setYears_10 rfl ?_
  refine R_iadd dX3_setYears_11 ?_
  refine R_putI dX3_setYears_12 lf_RX3_39 (by decide) rfl rfl rfl rfl ?_
  refine R_return dX3_setYears_15 rfl ?_
  exact ⟨rfl, by rw [qIs_nk (by decide)]⟩
set_option maxRecDepth 100000 in
set_option maxHeartbeats 4000000 in
theorem c_hasStation {M : qMem} {c : Int32} : qSem 0 mX3_hasStation [.ref 14, .int (c)] M (qb (0 ≤ c ∧ c < M.1 14 1) M) := by
  refine qSem.of (by decide +kernel) (Nat.le_of_ble_eq_true rfl) (fun w => ?_)
  refine R_ls (L' := [(0, .ref 14), (1, .int (c))]) (qs1 rfl (qs1 rfl qs0)) ?_
  refine R_iload_n dX3_hasStation_0 rfl ?_
  refine R_if_lt (tgt := 16) dX3_hasStation_1 (by decide) (fun h_1 => ?_) (fun h_1 => ?_)
  · refine R_iconst (v := nI 0) dX3_hasStation_16 rfl ?_
    refine R_ireturn dX3_hasStation_17 rfl rfl ?_
    exact ⟨rfl, by first | exact Or.inr ⟨rfl, fun h => absurd h.1 (Int32.not_le.mpr (by assumption))⟩ | exact Or.inr ⟨rfl, fun h => absurd h.2 (Int32.not_lt.mpr (by assumption))⟩ | exact Or.inl ⟨rfl, Int32.not_lt.mp (by assumption), Int32.not_le.mp (by assumption)⟩⟩
  · refine R_iload_n dX3_hasStation_4 rfl ?_
    refine R_aload_n dX3_hasStation_5 rfl ?_
    refine R_getI dX3_hasStation_6 (lf_RX3_30).get (by decide) rfl rfl ?_
    refine R_icmp_ge (tgt := 16) dX3_hasStation_9 (by decide) (fun h_9 => ?_) (fun h_9 => ?_)
    · refine R_iconst (v := nI 0) dX3_hasStation_16 rfl ?_
      refine R_ireturn dX3_hasStation_17 rfl rfl ?_
      exact ⟨rfl, by first | exact Or.inr ⟨rfl, fun h => absurd h.1 (Int32.not_le.mpr (by assumption))⟩ | exact Or.inr ⟨rfl, fun h => absurd h.2 (Int32.not_lt.mpr (by assumption))⟩ | exact Or.inl ⟨rfl, Int32.not_lt.mp (by assumption), Int32.not_le.mp (by assumption)⟩⟩
    · refine R_iconst (v := nI 1) dX3_hasStation_12 rfl ?_
      refine R_goto (tgt := 17) dX3_hasStation_13 (by decide) ?_
      refine R_ireturn dX3_hasStation_17 rfl rfl ?_
      exact ⟨rfl, by first | exact Or.inr ⟨rfl, fun h => absurd h.1 (Int32.not_le.mpr (by assumption))⟩ | exact Or.inr ⟨rfl, fun h => absurd h.2 (Int32.not_lt.mpr (by assumption))⟩ | exact Or.inl ⟨rfl, Int32.not_lt.mp (by assumption), Int32.not_le.mp (by assumption)⟩⟩
set_option maxRecDepth 100000 in
set_option maxHeartbeats 4000000 in
theorem c_isValue {M : qMem} {x : Int32} : qSem 0 mX7_isValue [.int (x)] M (qb (okv x) M) := by
  refine qSem.of (by decide +kernel) (Nat.le_of_ble_eq_true rfl) (fun w => ?_)
  refine R_ls (L' := [(0, .int (x))]) (qs1 rfl qs0) ?_
  refine R_iload_n dX7_isValue_0 rfl ?_
  refine R_sipush (v := -9999) dX7_isValue_1 rfl ?_
  refine R_icmp_lt (tgt := 18) dX7_isValue_4 (by decide) (fun h_4 => ?_) (fun h_4 => ?_)
  · refine R_iconst (v := nI 0) dX7_isValue_18 rfl ?_
    refine R_ireturn dX7_isValue_19 rfl rfl ?_
    refine ⟨rfl, ?_⟩
    rw [okv_iff]
    first | exact Or.inl ⟨rfl, Int32.not_lt.mp (by assumption), Int32.not_lt.mp (by assumption)⟩ | exact Or.inr ⟨rfl, fun h => absurd h.1 (Int32.not_le.mpr (by assumption))⟩ | exact Or.inr ⟨rfl, fun h => absurd h.2 (Int32.not_le.mpr (by assumption))⟩
  · refine R_iload_n dX7_isValue_7 rfl ?_
    refine R_sipush (v := nI 9999) dX7_isValue_8 rfl ?_
    refine R_top (y := 9999) rfl ?_
    refine R_icmp_gt (tgt := 18) dX7_isValue_11 (by decide) (fun h_11 => ?_) (fun h_11 => ?_)
    · refine R_iconst (v := nI 0) dX7_isValue_18 rfl ?_
      refine R_ireturn dX7_isValue_19 rfl rfl ?_
      refine ⟨rfl, ?_⟩
      rw [okv_iff]
      first | exact Or.inl ⟨rfl, Int32.not_lt.mp (by assumption), Int32.not_lt.mp (by assumption)⟩ | exact Or.inr ⟨rfl, fun h => absurd h.1 (Int32.not_le.mpr (by assumption))⟩ | exact Or.inr ⟨rfl, fun h => absurd h.2 (Int32.not_le.mpr (by assumption))⟩
    · refine R_iconst (v := nI 1) dX7_isValue_14 rfl ?_
      refine R_goto (tgt := 19) dX7_isValue_15 (by decide) ?_
      refine R_ireturn dX7_isValue_19 rfl rfl ?_
      refine ⟨rfl, ?_⟩
      rw [okv_iff]
      first | exact Or.inl ⟨rfl, Int32.not_lt.mp (by assumption), Int32.not_lt.mp (by assumption)⟩ | exact Or.inr ⟨rfl, fun h => absurd h.1 (Int32.not_le.mpr (by assumption))⟩ | exact Or.inr ⟨rfl, fun h => absurd h.2 (Int32.not_le.mpr (by assumption))⟩
set_option maxRecDepth 100000 in
set_option maxHeartbeats 4000000 in
theorem c_knows {M : qMem} {c t : Int32} : qSem 0 mX3_knows [.ref 14, .int (c), .int (t)] M (qb ((0 ≤ c ∧ c < M.1 14 1) ∧ 0 ≤ t ∧ t < M.1 14 0) M) := by
  refine qSem.of (by decide +kernel) (Nat.le_of_ble_eq_true rfl) (fun w => ?_)
  refine R_ls (L' := [(0, .ref 14), (1, .int (c)), (2, .int (t))]) (qs1 rfl (qs1 rfl (qs1 rfl qs0))) ?_
  refine R_aload_n dX3_knows_0 rfl ?_
  refine R_iload_n dX3_knows_1 rfl ?_
  refine R_callV (mc := mX3_hasStation) (As := [_]) (r := 14) dX3_knows_2 lm_RX3_42 mv_X3_hasStation rfl (by decide) rfl rfl rfl rfl (Nat.le_of_ble_eq_true rfl) c_hasStation ?_
  rintro _ _ ⟨rfl, ⟨rfl, h_2⟩ | ⟨rfl, h_2⟩⟩
  · refine R_if_eqN (tgt := 24) dX3_knows_5 (by decide) (by omega) (fun h_5 => by exact absurd h_5 (by decide)) (fun h_5 => ?_)
    refine R_iload_n dX3_knows_8 rfl ?_
    refine R_if_lt (tgt := 24) dX3_knows_9 (by decide) (fun h_9 => ?_) (fun h_9 => ?_)
    · refine R_iconst (v := nI 0) dX3_knows_24 rfl ?_
      refine R_ireturn dX3_knows_25 rfl rfl ?_
      exact ⟨rfl, by first | exact Or.inr ⟨rfl, fun h => h_2 h.1⟩ | exact Or.inr ⟨rfl, fun h => absurd h.2.1 (Int32.not_le.mpr (by assumption))⟩ | exact Or.inr ⟨rfl, fun h => absurd h.2.2 (Int32.not_lt.mpr (by assumption))⟩ | exact Or.inl ⟨rfl, h_2, Int32.not_lt.mp (by assumption), Int32.not_le.mp (by assumption)⟩⟩
    · refine R_iload_n dX3_knows_12 rfl ?_
      refine R_aload_n dX3_knows_13 rfl ?_
      refine R_getI dX3_knows_14 (lf_RX3_26).get (by decide) rfl rfl ?_
      refine R_icmp_ge (tgt := 24) dX3_knows_17 (by decide) (fun h_17 => ?_) (fun h_17 => ?_)
      · refine R_iconst (v := nI 0) dX3_knows_24 rfl ?_
        refine R_ireturn dX3_knows_25 rfl rfl ?_
        exact ⟨rfl, by first | exact Or.inr ⟨rfl, fun h => h_2 h.1⟩ | exact Or.inr ⟨rfl, fun h => absurd h.2.1 (Int32.not_le.mpr (by assumption))⟩ | exact Or.inr ⟨rfl, fun h => absurd h.2.2 (Int32.not_lt.mpr (by assumption))⟩ | exact Or.inl ⟨rfl, h_2, Int32.not_lt.mp (by assumption), Int32.not_le.mp (by assumption)⟩⟩
      · refine R_iconst (v := nI 1) dX3_knows_20 rfl ?_
        refine R_goto (tgt := 25) dX3_knows_21 (by decide) ?_
        refine R_ireturn dX3_knows_25 rfl rfl ?_
        exact ⟨rfl, by first | exact Or.inr ⟨rfl, fun h => h_2 h.1⟩ | exact Or.inr ⟨rfl, fun h => absurd h.2.1 (Int32.not_le.mpr (by assumption))⟩ | exact Or.inr ⟨rfl, fun h => absurd h.2.2 (Int32.not_lt.mpr (by assumption))⟩ | exact Or.inl ⟨rfl, h_2, Int32.not_lt.mp (by assumption), Int32.not_le.mp (by assumption)⟩⟩
  · refine R_if_eqN (tgt := 24) dX3_knows_5 (by decide) (by omega) (fun h_5 => ?_) (fun h_5 => by exact absurd h_5 (by decide))
    refine R_iconst (v := nI 0) dX3_knows_24 rfl ?_
    refine R_ireturn dX3_knows_25 rfl rfl ?_
    exact ⟨rfl, by first | exact Or.inr ⟨rfl, fun h => h_2 h.1⟩ | exact Or.inr ⟨rfl, fun h => absurd h.2.1 (Int32.not_le.mpr (by assumption))⟩ | exact Or.inr ⟨rfl, fun h => absurd h.2.2 (Int32.not_lt.mpr (by assumption))⟩ | exact Or.inl ⟨rfl, h_2, Int32.not_lt.mp (by assumption), Int32.not_le.mp (by assumption)⟩⟩
set_option maxRecDepth 100000 in
set_option maxHeartbeats 4000000 in
theorem l_canShift {w : qWT} {M : qMem} {c y : Nat} {s : Int32} (hc : c < 6) (hy : y ≤ 16) : ∀ (n : Nat) (i : Nat), (y + 1 - i) < n → (i ≤ y) → (∀ t, t < i → ¬ M.1 (19 + c) t = 1000000 → okv (M.1 (19 + c) t + s)) → qRW 0 w mX3_canShiftEarlier 3 [(0, .ref 14), (1, .int (nI c)), (2, .int (nI y)), (3, .int (s)), (4, .int (nI i))] [] M (qb (∀ t, t < y → ¬ M.1 (19 + c) t = 1000000 → okv (M.1 (19 + c) t + s)) M) := by
  intro n
  induction n with
  | zero => intro i hn; exact absurd hn (Nat.not_lt_zero _)
  | succ n ih =>
    intro i hn hi hv
    refine R_iload dX3_canShiftEarlier_3 rfl ?_
    refine R_iload_n dX3_canShiftEarlier_5 rfl ?_
    refine R_icmp_geN (tgt := 44) dX3_canShiftEarlier_6 (by decide) (by omega) (by omega) (fun h_6 => ?_) (fun h_6 => ?_)
    · refine R_iconst (v := nI 1) dX3_canShiftEarlier_44 rfl ?_
      refine R_ireturn dX3_canShiftEarlier_45 rfl rfl ?_
      exact ⟨rfl, Or.inl ⟨rfl, fun t ht hm => hv t (by omega) hm⟩⟩
    · refine R_aload_n dX3_canShiftEarlier_9 rfl ?_
      refine R_iload_n dX3_canShiftEarlier_10 rfl ?_
      refine R_iload dX3_canShiftEarlier_11 rfl ?_
      refine R_callV (mc := mX3_has) (As := [_, _]) (r := 14) dX3_canShiftEarlier_13 lm_RX3_47 mv_X3_has rfl (by decide) rfl rfl rfl rfl (Nat.le_of_ble_eq_true rfl) (c_has_14 hc (by omega)) ?_
      rintro _ _ ⟨rfl, ⟨rfl, h_13⟩ | ⟨rfl, h_13⟩⟩
      · refine R_if_eqN (tgt := 38) dX3_canShiftEarlier_16 (by decide) (by omega) (fun h_16 => by exact absurd h_16 (by decide)) (fun h_16 => ?_)
        refine R_aload_n dX3_canShiftEarlier_19 rfl ?_
        refine R_getR dX3_canShiftEarlier_20 lg_RX3_20 (by decide) rfl rfl ?_
        refine R_iload_n dX3_canShiftEarlier_23 rfl ?_
        refine R_aald3N dX3_canShiftEarlier_24 (by decide) rfl (by omega) (by decide) ?_
        refine R_iload dX3_canShiftEarlier_25 rfl ?_
        refine R_ialdN dX3_canShiftEarlier_27 (show 19 + c < 101 by have := ((by omega) : c < 6); omega) (sh_val14 (by omega)) (by omega) (by decide) ?_
        refine R_iload_n dX3_canShiftEarlier_28 rfl ?_
        refine R_iadd dX3_canShiftEarlier_29 ?_
        refine R_callSN (mc := mX7_isValue) (As := [_]) dX3_canShiftEarlier_30 lm_RX3_51 mv_X7_isValue rfl rfl rfl (Nat.le_of_ble_eq_true rfl) c_isValue ?_
        rintro _ _ ⟨rfl, ⟨rfl, h_30⟩ | ⟨rfl, h_30⟩⟩
        · refine R_if_neN (tgt := 38) dX3_canShiftEarlier_33 (by decide) (by omega) (fun h_33 => ?_) (fun h_33 => by exact absurd h_33 (by decide))
          refine R_iincN (n := 1) (L' := [(0, .ref 14), (1, .int (nI c)), (2, .int (nI y)), (3, .int (s)), (4, .int (nI (i + 1)))]) dX3_canShiftEarlier_38 rfl (by decide) (qs1 rfl (qs1 rfl (qs1 rfl (qs1 rfl (qs1 rfl qs0))))) ?_
          refine R_goto (tgt := 3) dX3_canShiftEarlier_41 (by decide) ?_
          refine R_ls (L' := [(0, .ref 14), (1, .int (nI c)), (2, .int (nI y)), (3, .int (s)), (4, .int (nI (i + 1)))]) (qs1 rfl (qs1 rfl (qs1 rfl (qs1 rfl (qs1 rfl qs0))))) ?_
          exact ih (i + 1) (by omega) (by omega) (fun t ht hm => by by_cases e : t = i; · (subst e; first | exact h_30 | exact absurd hm h_13); · exact hv t (by omega) hm)
        · refine R_if_neN (tgt := 38) dX3_canShiftEarlier_33 (by decide) (by omega) (fun h_33 => by exact absurd h_33 (by decide)) (fun h_33 => ?_)
          refine R_iconst (v := nI 0) dX3_canShiftEarlier_36 rfl ?_
          refine R_ireturn dX3_canShiftEarlier_37 rfl rfl ?_
          exact ⟨rfl, Or.inr ⟨rfl, fun h => h_30 (h i (by omega) h_13)⟩⟩
      · refine R_if_eqN (tgt := 38) dX3_canShiftEarlier_16 (by decide) (by omega) (fun h_16 => ?_) (fun h_16 => by exact absurd h_16 (by decide))
        refine R_iincN (n := 1) (L' := [(0, .ref 14), (1, .int (nI c)), (2, .int (nI y)), (3, .int (s)), (4, .int (nI (i + 1)))]) dX3_canShiftEarlier_38 rfl (by decide) (qs1 rfl (qs1 rfl (qs1 rfl (qs1 rfl (qs1 rfl qs0))))) ?_
        refine R_goto (tgt := 3) dX3_canShiftEarlier_41 (by decide) ?_
        refine R_ls (L' := [(0, .ref 14), (1, .int (nI c)), (2, .int (nI y)), (3, .int (s)), (4, .int (nI (i + 1)))]) (qs1 rfl (qs1 rfl (qs1 rfl (qs1 rfl (qs1 rfl qs0))))) ?_
        exact ih (i + 1) (by omega) (by omega) (fun t ht hm => by by_cases e : t = i; · (subst e; first | exact h_30 | exact absurd hm h_13); · exact hv t (by omega) hm)
set_option maxRecDepth 100000 in
set_option maxHeartbeats 4000000 in
theorem c_canShift {M : qMem} {c y : Nat} {s : Int32} (hc : c < 6) (hy : y ≤ 16) : qSem 0 mX3_canShiftEarlier [.ref 14, .int (nI c), .int (nI y), .int (s)] M (qb (∀ t, t < y → ¬ M.1 (19 + c) t = 1000000 → okv (M.1 (19 + c) t + s)) M) := by
  refine qSem.of (by decide +kernel) (Nat.le_of_ble_eq_true rfl) (fun w => ?_)
  refine R_ls (L' := [(0, .ref 14), (1, .int (nI c)), (2, .int (nI y)), (3, .int (s))]) (qs1 rfl (qs1 rfl (qs1 rfl (qs1 rfl qs0)))) ?_
  refine R_iconst (v := nI 0) dX3_canShiftEarlier_0 rfl ?_
  refine R_istore (L' := [(0, .ref 14), (1, .int (nI c)), (2, .int (nI y)), (3, .int (s)), (4, .int (nI 0))]) dX3_canShiftEarlier_1 (by decide) (qs1 rfl (qs1 rfl (qs1 rfl (qs1 rfl (qs1 rfl qs0))))) ?_
  refine R_ls (L' := [(0, .ref 14), (1, .int (nI c)), (2, .int (nI y)), (3, .int (s)), (4, .int (nI 0))]) (qs1 rfl (qs1 rfl (qs1 rfl (qs1 rfl (qs1 rfl qs0))))) ?_
  exact l_canShift hc hy (y + 2) 0 (by omega) (by omega) (fun t ht => absurd ht (Nat.not_lt_zero t))
theorem qShift_at (M : qMem) (c i : Nat) (s : Int32) : (qShift M c i s).1 (19 + c) i = M.1 (19 + c) i := by simp [qShift]
theorem qShift_s (M : qMem) (c i : Nat) (s : Int32) (h : ¬ M.1 (19 + c) i = 1000000) : qIs (qShift M c i s) (19 + c) i ((qShift M c i s).1 (19 + c) i + s) = qShift M c (i + 1) s := by
  rw [qShift_at]
  refine Prod.ext (funext fun o => funext fun k => ?_) rfl
  show (if o = 19 + c ∧ k = i then M.1 (19 + c) i + s else (if o = 19 + c ∧ k < i ∧ ¬ M.1 (19 + c) k = 1000000 then M.1 o k + s else M.1 o k)) = if o = 19 + c ∧ k < i + 1 ∧ ¬ M.1 (19 + c) k = 1000000 then M.1 o k + s else M.1 o k
  by_cases ho : o = 19 + c
  · subst ho
    by_cases hk : k = i
    · subst hk; simp [h]
    · have e : (k < i + 1) = (k < i) := by apply propext; omega
      simp [hk, e]
  · simp [ho]
theorem qShift_n (M : qMem) (c i : Nat) (s : Int32) (h : M.1 (19 + c) i = 1000000) : qShift M c i s = qShift M c (i + 1) s := by
  refine Prod.ext (funext fun o => funext fun k => ?_) rfl
  show (if o = 19 + c ∧ k < i ∧ ¬ M.1 (19 + c) k = 1000000 then M.1 o k + s else M.1 o k) = if o = 19 + c ∧ k < i + 1 ∧ ¬ M.1 (19 + c) k = 1000000 then M.1 o k + s else M.1 o k
  by_cases hk : k = i
  · subst hk; simp [h]
  · have e : (k < i + 1) = (k < i) := by apply propext; omega
    simp [e]
theorem qShift_0 (M : qMem) (c : Nat) (s : Int32) : qShift M c 0 s = M := by
  refine Prod.ext (funext fun o => funext fun k => ?_) rfl
  simp [qShift]
theorem qShift_v (M : qMem) (c y : Nat) (s : Int32) : (qShift M c y s).1 14 = M.1 14 := by
  funext k
  simp [qShift]; omega
set_option maxRecDepth 100000 in
set_option maxHeartbeats 4000000 in
theorem l_shift {w : qWT} {M : qMem} {c y : Nat} {s : Int32} (hc : c < 6) (hy : y ≤ 16) : ∀ (n : Nat) (i : Nat), (y + 1 - i) < n → (i ≤ y) → qRW 0 w mX3_shiftEarlier 3 [(0, .ref 14), (1, .int (nI c)), (2, .int (nI y)), (3, .int (s)), (4, .int (nI i))] [] (qShift M c i s) (qv (qIs (qShift M c y s) 14 7 (M.1 14 7 + nI 1))) := by
  intro n
  induction n with
  | zero => intro i hn; exact absurd hn (Nat.not_lt_zero _)
  | succ n ih =>
    intro i hn hi
    refine R_iload dX3_shiftEarlier_3 rfl ?_
    refine R_iload_n dX3_shiftEarlier_5 rfl ?_
    refine R_icmp_geN (tgt := 38) dX3_shiftEarlier_6 (by decide) (by omega) (by omega) (fun h_6 => ?_) (fun h_6 => ?_)
    · refine R_aload_n dX3_shiftEarlier_38 rfl ?_
      refine R_dup dX3_shiftEarlier_39 rfl ?_
      refine R_getI dX3_shiftEarlier_40 (lf_RX3_39).get (by decide) rfl rfl ?_
      refine R_iconst (v := nI 1) dX3_shiftEarlier_43 rfl ?_
      refine R_iadd dX3_shiftEarlier_44 ?_
      refine R_putI dX3_shiftEarlier_45 lf_RX3_39 (by decide) rfl rfl rfl rfl ?_
      refine R_return dX3_shiftEarlier_48 rfl ?_
      have e : i = y := by omega
      subst e
      exact ⟨rfl, by rw [qShift_v]⟩
    · refine R_aload_n dX3_shiftEarlier_9 rfl ?_
      refine R_iload_n dX3_shiftEarlier_10 rfl ?_
      refine R_iload dX3_shiftEarlier_11 rfl ?_
      refine R_callV (mc := mX3_has) (As := [_, _]) (r := 14) dX3_shiftEarlier_13 lm_RX3_47 mv_X3_has rfl (by decide) rfl rfl rfl rfl (Nat.le_of_ble_eq_true rfl) (c_has_14 hc (by omega)) ?_
      rintro _ _ ⟨rfl, ⟨rfl, h_13⟩ | ⟨rfl, h_13⟩⟩
      · refine R_if_eqN (tgt := 32) dX3_shiftEarlier_16 (by decide) (by omega) (fun h_16 => by exact absurd h_16 (by decide)) (fun h_16 => ?_)
        refine R_aload_n dX3_shiftEarlier_19 rfl ?_
        refine R_getR dX3_shiftEarlier_20 lg_RX3_20 (by decide) rfl rfl ?_
        refine R_iload_n dX3_shiftEarlier_23 rfl ?_
        refine R_aald3N dX3_shiftEarlier_24 (by decide) rfl (by omega) (by decide) ?_
        refine R_iload dX3_shiftEarlier_25 rfl ?_
        refine R_dup2 dX3_shiftEarlier_27 rfl rfl ?_
        refine R_ialdN dX3_shiftEarlier_28 (show 19 + c < 101 by have := ((by omega) : c < 6); omega) (sh_val14 (by omega)) (by omega) (by decide) ?_
        refine R_iload_n dX3_shiftEarlier_29 rfl ?_
        refine R_iadd dX3_shiftEarlier_30 ?_
        refine R_iastN dX3_shiftEarlier_31 (show 19 + c < 101 by have := ((by omega) : c < 6); omega) (sh_val14 (by omega)) (by omega) (by decide) ?_
        rw [qShift_s M c i s (by rw [← qShift_at M c i s]; exact h_13)]
        refine R_iincN (n := 1) (L' := [(0, .ref 14), (1, .int (nI c)), (2, .int (nI y)), (3, .int (s)), (4, .int (nI (i + 1)))]) dX3_shiftEarlier_32 rfl (by decide) (qs1 rfl (qs1 rfl (qs1 rfl (qs1 rfl (qs1 rfl qs0))))) ?_
        refine R_goto (tgt := 3) dX3_shiftEarlier_35 (by decide) ?_
        refine R_ls (L' := [(0, .ref 14), (1, .int (nI c)), (2, .int (nI y)), (3, .int (s)), (4, .int (nI (i + 1)))]) (qs1 rfl (qs1 rfl (qs1 rfl (qs1 rfl (qs1 rfl qs0))))) ?_
        exact (by first | exact ih (i + 1) (by omega) (by omega) | (rw [qShift_n M c i s (by rw [← qShift_at M c i s]; exact Classical.not_not.mp h_13)]; exact ih (i + 1) (by omega) (by omega)))
      · refine R_if_eqN (tgt := 32) dX3_shiftEarlier_16 (by decide) (by omega) (fun h_16 => ?_) (fun h_16 => by exact absurd h_16 (by decide))
        refine R_iincN (n := 1) (L' := [(0, .ref 14), (1, .int (nI c)), (2, .int (nI y)), (3, .int (s)), (4, .int (nI (i + 1)))]) dX3_shiftEarlier_32 rfl (by decide) (qs1 rfl (qs1 rfl (qs1 rfl (qs1 rfl (qs1 rfl qs0))))) ?_
        refine R_goto (tgt := 3) dX3_shiftEarlier_35 (by decide) ?_
        refine R_ls (L' := [(0, .ref 14), (1, .int (nI c)), (2, .int (nI y)), (3, .int (s)), (4, .int (nI (i + 1)))]) (qs1 rfl (qs1 rfl (qs1 rfl (qs1 rfl (qs1 rfl qs0))))) ?_
        exact (by first | exact ih (i + 1) (by omega) (by omega) | (rw [qShift_n M c i s (by rw [← qShift_at M c i s]; exact Classical.not_not.mp h_13)]; exact ih (i + 1) (by omega) (by omega)))
set_option maxRecDepth 100000 in
set_option maxHeartbeats 4000000 in
theorem c_shift {M : qMem} {c y : Nat} {s : Int32} (hc : c < 6) (hy : y ≤ 16) : qSem 0 mX3_shiftEarlier [.ref 14, .int (nI c), .int (nI y), .int (s)] M (qv (qIs (qShift M c y s) 14 7 (M.1 14 7 + nI 1))) := by
  refine qSem.of (by decide +kernel) (Nat.le_of_ble_eq_true rfl) (fun w => ?_)
  refine R_ls (L' := [(0, .ref 14), (1, .int (nI c)), (2, .int (nI y)), (3, .int (s))]) (qs1 rfl (qs1 rfl (qs1 rfl (qs1 rfl qs0)))) ?_
  refine R_iconst (v := nI 0) dX3_shiftEarlier_0 rfl ?_
  refine R_istore (L' := [(0, .ref 14), (1, .int (nI c)), (2, .int (nI y)), (3, .int (s)), (4, .int (nI 0))]) dX3_shiftEarlier_1 (by decide) (qs1 rfl (qs1 rfl (qs1 rfl (qs1 rfl (qs1 rfl qs0))))) ?_
  refine R_ls (L' := [(0, .ref 14), (1, .int (nI c)), (2, .int (nI y)), (3, .int (s)), (4, .int (nI 0))]) (qs1 rfl (qs1 rfl (qs1 rfl (qs1 rfl (qs1 rfl qs0))))) ?_
  exact (by have h := l_shift (w := w) (M := M) (s := s) hc hy (y + 2) 0 (by omega) (by omega); rw [qShift_0] at h; exact h)
set_option maxRecDepth 100000 in
set_option maxHeartbeats 4000000 in
theorem c_sqd {M : qMem} {d : dT} (hX : XR 14 M d) (hB : dB d) {u v : Nat} (hu : u < dK d) (hv : v < dK d) : qSem 0 mX3_squaredDistance [.ref 14, .int (nI u), .int (nI v)] M (qr (sqd d u v) M) := by
  have hK6 := hB.2.1
  refine qSem.of (by decide +kernel) (Nat.le_of_ble_eq_true rfl) (fun w => ?_)
  refine R_ls (L' := [(0, .ref 14), (1, .int (nI u)), (2, .int (nI v))]) (qs1 rfl (qs1 rfl (qs1 rfl qs0))) ?_
  refine R_aload_n dX3_squaredDistance_0 rfl ?_
  refine R_getR dX3_squaredDistance_1 lg_RX3_9 (by decide) rfl rfl ?_
  refine R_iload_n dX3_squaredDistance_4 rfl ?_
  refine R_ialdN dX3_squaredDistance_5 (by decide) rfl (by omega) (by decide) ?_
  refine R_aload_n dX3_squaredDistance_6 rfl ?_
  refine R_getR dX3_squaredDistance_7 lg_RX3_9 (by decide) rfl rfl ?_
  refine R_iload_n dX3_squaredDistance_10 rfl ?_
  refine R_ialdN dX3_squaredDistance_11 (by decide) rfl (by omega) (by decide) ?_
  refine R_isub dX3_squaredDistance_12 ?_
  refine R_istore_n (L' := [(0, .ref 14), (1, .int (nI u)), (2, .int (nI v)), (3, .int _)]) dX3_squaredDistance_13 (by decide) (qs1 rfl (qs1 rfl (qs1 rfl (qs1 rfl qs0)))) ?_
  refine R_aload_n dX3_squaredDistance_14 rfl ?_
  refine R_getR dX3_squaredDistance_15 lg_RX3_15 (by decide) rfl rfl ?_
  refine R_iload_n dX3_squaredDistance_18 rfl ?_
  refine R_ialdN dX3_squaredDistance_19 (by decide) rfl (by omega) (by decide) ?_
  refine R_aload_n dX3_squaredDistance_20 rfl ?_
  refine R_getR dX3_squaredDistance_21 lg_RX3_15 (by decide) rfl rfl ?_
  refine R_iload_n dX3_squaredDistance_24 rfl ?_
  refine R_ialdN dX3_squaredDistance_25 (by decide) rfl (by omega) (by decide) ?_
  refine R_isub dX3_squaredDistance_26 ?_
  refine R_istore (L' := [(0, .ref 14), (1, .int (nI u)), (2, .int (nI v)), (3, .int _), (4, .int _)]) dX3_squaredDistance_27 (by decide) (qs1 rfl (qs1 rfl (qs1 rfl (qs1 rfl (qs1 rfl qs0))))) ?_
  refine R_iload_n dX3_squaredDistance_29 rfl ?_
  refine R_iload_n dX3_squaredDistance_30 rfl ?_
  refine R_imul dX3_squaredDistance_31 ?_
  refine R_iload dX3_squaredDistance_32 rfl ?_
  refine R_iload dX3_squaredDistance_34 rfl ?_
  refine R_imul dX3_squaredDistance_36 ?_
  refine R_iadd dX3_squaredDistance_37 ?_
  refine R_ireturn dX3_squaredDistance_38 rfl rfl ?_
  exact ⟨by simp only [sqd, hX.2.2.1 u hu, hX.2.2.1 v hv, hX.2.2.2.1 u hu, hX.2.2.2.1 v hv], rfl⟩
set_option maxRecDepth 100000 in
set_option maxHeartbeats 4000000 in
theorem l_rank {w : qWT} {M : qMem} {d : dT} (hX : XR 14 M d) (hB : dB d) {c q : Nat} (hc : c < dK d) (hq : q < dK d) : ∀ (n : Nat) (i : Nat), (dK d + 1 - i) < n → (i ≤ dK d) → qRW 0 w mX3_rank 13 [(0, .ref 14), (1, .int (nI c)), (2, .int (nI q)), (3, .int (sqd d c q)), (4, .int (nI (rnkTo d c q i))), (5, .int (nI i))] [] M (qr (nI (rnk d c q)) M) := by
  intro n
  induction n with
  | zero => intro i hn; exact absurd hn (Nat.not_lt_zero _)
  | succ n ih =>
    intro i hn hi
    have hK6 := hB.2.1
    have hle := rnkTo_le d c q i
    refine R_iload dX3_rank_13 rfl ?_
    refine R_aload_n dX3_rank_15 rfl ?_
    refine R_getI dX3_rank_16 (lf_RX3_30).get (by decide) rfl rfl ?_
    refine R_top hX.2.1 ?_
    refine R_icmp_geN (tgt := 64) dX3_rank_19 (by decide) (by omega) (by omega) (fun h_19 => ?_) (fun h_19 => ?_)
    · refine R_iload dX3_rank_64 rfl ?_
      refine R_ireturn dX3_rank_66 rfl rfl ?_
      have e : i = dK d := by omega
      subst e
      exact ⟨rfl, rfl⟩
    · refine R_aload_n dX3_rank_22 rfl ?_
      refine R_iload_n dX3_rank_23 rfl ?_
      refine R_iload dX3_rank_24 rfl ?_
      refine R_callV (mc := mX3_squaredDistance) (As := [_, _]) (r := 14) dX3_rank_26 lm_RX3_54 mv_X3_squaredDistance rfl (by decide) rfl rfl rfl rfl (Nat.le_of_ble_eq_true rfl) (c_sqd hX hB hc (by omega)) ?_
      rintro _ _ ⟨rfl, rfl⟩
      refine R_istore (L' := [(0, .ref 14), (1, .int (nI c)), (2, .int (nI q)), (3, .int (sqd d c q)), (4, .int (nI (rnkTo d c q i))), (5, .int (nI i)), (6, .int (sqd d c i))]) dX3_rank_29 (by decide) (qs1 rfl (qs1 rfl (qs1 rfl (qs1 rfl (qs1 rfl (qs1 rfl (qs1 rfl qs0))))))) ?_
      refine R_iload dX3_rank_31 rfl ?_
      refine R_iload_n dX3_rank_33 rfl ?_
      refine R_icmp_eqN (tgt := 58) dX3_rank_34 (by decide) (by omega) (by omega) (fun h_34 => ?_) (fun h_34 => ?_)
      · refine R_iincN (n := 1) (L' := [(0, .ref 14), (1, .int (nI c)), (2, .int (nI q)), (3, .int (sqd d c q)), (4, .int (nI (rnkTo d c q i))), (5, .int (nI (i + 1))), (6, .int (sqd d c i))]) dX3_rank_58 rfl (by decide) (qs1 rfl (qs1 rfl (qs1 rfl (qs1 rfl (qs1 rfl (qs1 rfl (qs1 rfl qs0))))))) ?_
        refine R_goto (tgt := 13) dX3_rank_61 (by decide) ?_
        refine R_ls (L' := [(0, .ref 14), (1, .int (nI c)), (2, .int (nI q)), (3, .int (sqd d c q)), (4, .int (nI (rnkTo d c q i))), (5, .int (nI (i + 1)))]) (qs1 rfl (qs1 rfl (qs1 rfl (qs1 rfl (qs1 rfl (qs1 rfl qs0)))))) ?_
        exact (by have h := ih (i + 1) (by omega) (by omega); rw [show rnkTo d c q (i + 1) = rnkTo d c q i + (if nearr d c q i then 1 else 0) from rfl] at h; first | (rw [if_pos (by simp_all [nearr])] at h; exact h) | (rw [if_neg (by simp_all [nearr]; done)] at h; exact h) | (rw [if_neg (by simp_all [nearr]; omega)] at h; exact h))
      · refine R_iload dX3_rank_37 rfl ?_
        refine R_iload_n dX3_rank_39 rfl ?_
        refine R_icmp_lt (tgt := 55) dX3_rank_40 (by decide) (fun h_40 => ?_) (fun h_40 => ?_)
        · refine R_iincN (n := 1) (L' := [(0, .ref 14), (1, .int (nI c)), (2, .int (nI q)), (3, .int (sqd d c q)), (4, .int (nI ((rnkTo d c q i) + 1))), (5, .int (nI i)), (6, .int (sqd d c i))]) dX3_rank_55 rfl (by decide) (qs1 rfl (qs1 rfl (qs1 rfl (qs1 rfl (qs1 rfl (qs1 rfl (qs1 rfl qs0))))))) ?_
          refine R_iincN (n := 1) (L' := [(0, .ref 14), (1, .int (nI c)), (2, .int (nI q)), (3, .int (sqd d c q)), (4, .int (nI ((rnkTo d c q i) + 1))), (5, .int (nI (i + 1))), (6, .int (sqd d c i))]) dX3_rank_58 rfl (by decide) (qs1 rfl (qs1 rfl (qs1 rfl (qs1 rfl (qs1 rfl (qs1 rfl (qs1 rfl qs0))))))) ?_
          refine R_goto (tgt := 13) dX3_rank_61 (by decide) ?_
          refine R_ls (L' := [(0, .ref 14), (1, .int (nI c)), (2, .int (nI q)), (3, .int (sqd d c q)), (4, .int (nI ((rnkTo d c q i) + 1))), (5, .int (nI (i + 1)))]) (qs1 rfl (qs1 rfl (qs1 rfl (qs1 rfl (qs1 rfl (qs1 rfl qs0)))))) ?_
          exact (by have h := ih (i + 1) (by omega) (by omega); rw [show rnkTo d c q (i + 1) = rnkTo d c q i + (if nearr d c q i then 1 else 0) from rfl] at h; first | (rw [if_pos (by simp_all [nearr])] at h; exact h) | (rw [if_neg (by simp_all [nearr]; done)] at h; exact h) | (rw [if_neg (by simp_all [nearr]; omega)] at h; exact h))
        · refine R_iload dX3_rank_43 rfl ?_
          refine R_iload_n dX3_rank_45 rfl ?_
          refine R_icmp_ne (tgt := 58) dX3_rank_46 (by decide) (fun h_46 => ?_) (fun h_46 => ?_)
          · refine R_iincN (n := 1) (L' := [(0, .ref 14), (1, .int (nI c)), (2, .int (nI q)), (3, .int (sqd d c q)), (4, .int (nI (rnkTo d c q i))), (5, .int (nI (i + 1))), (6, .int (sqd d c i))]) dX3_rank_58 rfl (by decide) (qs1 rfl (qs1 rfl (qs1 rfl (qs1 rfl (qs1 rfl (qs1 rfl (qs1 rfl qs0))))))) ?_
            refine R_goto (tgt := 13) dX3_rank_61 (by decide) ?_
            refine R_ls (L' := [(0, .ref 14), (1, .int (nI c)), (2, .int (nI q)), (3, .int (sqd d c q)), (4, .int (nI (rnkTo d c q i))), (5, .int (nI (i + 1)))]) (qs1 rfl (qs1 rfl (qs1 rfl (qs1 rfl (qs1 rfl (qs1 rfl qs0)))))) ?_
            exact (by have h := ih (i + 1) (by omega) (by omega); rw [show rnkTo d c q (i + 1) = rnkTo d c q i + (if nearr d c q i then 1 else 0) from rfl] at h; first | (rw [if_pos (by simp_all [nearr])] at h; exact h) | (rw [if_neg (by simp_all [nearr]; done)] at h; exact h) | (rw [if_neg (by simp_all [nearr]; omega)] at h; exact h))
          · refine R_iload dX3_rank_49 rfl ?_
            refine R_iload_n dX3_rank_51 rfl ?_
            refine R_icmp_geN (tgt := 58) dX3_rank_52 (by decide) (by omega) (by omega) (fun h_52 => ?_) (fun h_52 => ?_)
            · refine R_iincN (n := 1) (L' := [(0, .ref 14), (1, .int (nI c)), (2, .int (nI q)), (3, .int (sqd d c q)), (4, .int (nI (rnkTo d c q i))), (5, .int (nI (i + 1))), (6, .int (sqd d c i))]) dX3_rank_58 rfl (by decide) (qs1 rfl (qs1 rfl (qs1 rfl (qs1 rfl (qs1 rfl (qs1 rfl (qs1 rfl qs0))))))) ?_
              refine R_goto (tgt := 13) dX3_rank_61 (by decide) ?_
              refine R_ls (L' := [(0, .ref 14), (1, .int (nI c)), (2, .int (nI q)), (3, .int (sqd d c q)), (4, .int (nI (rnkTo d c q i))), (5, .int (nI (i + 1)))]) (qs1 rfl (qs1 rfl (qs1 rfl (qs1 rfl (qs1 rfl (qs1 rfl qs0)))))) ?_
              exact (by have h := ih (i + 1) (by omega) (by omega); rw [show rnkTo d c q (i + 1) = rnkTo d c q i + (if nearr d c q i then 1 else 0) from rfl] at h; first | (rw [if_pos (by simp_all [nearr])] at h; exact h) | (rw [if_neg (by simp_all [nearr]; done)] at h; exact h) | (rw [if_neg (by simp_all [nearr]; omega)] at h; exact h))
            · refine R_iincN (n := 1) (L' := [(0, .ref 14), (1, .int (nI c)), (2, .int (nI q)), (3, .int (sqd d c q)), (4, .int (nI ((rnkTo d c q i) + 1))), (5, .int (nI i)), (6, .int (sqd d c i))]) dX3_rank_55 rfl (by decide) (qs1 rfl (qs1 rfl (qs1 rfl (qs1 rfl (qs1 rfl (qs1 rfl (qs1 rfl qs0))))))) ?_
              refine R_iincN (n := 1) (L' := [(0, .ref 14), (1, .int (nI c)), (2, .int (nI q)), (3, .int (sqd d c q)), (4, .int (nI ((rnkTo d c q i) + 1))), (5, .int (nI (i + 1))), (6, .int (sqd d c i))]) dX3_rank_58 rfl (by decide) (qs1 rfl (qs1 rfl (qs1 rfl (qs1 rfl (qs1 rfl (qs1 rfl (qs1 rfl qs0))))))) ?_
              refine R_goto (tgt := 13) dX3_rank_61 (by decide) ?_
              refine R_ls (L' := [(0, .ref 14), (1, .int (nI c)), (2, .int (nI q)), (3, .int (sqd d c q)), (4, .int (nI ((rnkTo d c q i) + 1))), (5, .int (nI (i + 1)))]) (qs1 rfl (qs1 rfl (qs1 rfl (qs1 rfl (qs1 rfl (qs1 rfl qs0)))))) ?_
              exact (by have h := ih (i + 1) (by omega) (by omega); rw [show rnkTo d c q (i + 1) = rnkTo d c q i + (if nearr d c q i then 1 else 0) from rfl] at h; first | (rw [if_pos (by simp_all [nearr])] at h; exact h) | (rw [if_neg (by simp_all [nearr]; done)] at h; exact h) | (rw [if_neg (by simp_all [nearr]; omega)] at h; exact h))
set_option maxRecDepth 100000 in
set_option maxHeartbeats 4000000 in
theorem c_rank {M : qMem} {d : dT} (hX : XR 14 M d) (hB : dB d) {c q : Nat} (hc : c < dK d) (hq : q < dK d) : qSem 0 mX3_rank [.ref 14, .int (nI c), .int (nI q)] M (qr (nI (rnk d c q)) M) := by
  refine qSem.of (by decide +kernel) (Nat.le_of_ble_eq_true rfl) (fun w => ?_)
  refine R_ls (L' := [(0, .ref 14), (1, .int (nI c)), (2, .int (nI q))]) (qs1 rfl (qs1 rfl (qs1 rfl qs0))) ?_
  refine R_aload_n dX3_rank_0 rfl ?_
  refine R_iload_n dX3_rank_1 rfl ?_
  refine R_iload_n dX3_rank_2 rfl ?_
  refine R_callV (mc := mX3_squaredDistance) (As := [_, _]) (r := 14) dX3_rank_3 lm_RX3_54 mv_X3_squaredDistance rfl (by decide) rfl rfl rfl rfl (Nat.le_of_ble_eq_true rfl) (c_sqd hX hB hc hq) ?_
  rintro _ _ ⟨rfl, rfl⟩
  refine R_istore_n (L' := [(0, .ref 14), (1, .int (nI c)), (2, .int (nI q)), (3, .int (sqd d c q))]) dX3_rank_6 (by decide) (qs1 rfl (qs1 rfl (qs1 rfl (qs1 rfl qs0)))) ?_
  refine R_iconst (v := nI 0) dX3_rank_7 rfl ?_
  refine R_istore (L' := [(0, .ref 14), (1, .int (nI c)), (2, .int (nI q)), (3, .int (sqd d c q)), (4, .int (nI 0))]) dX3_rank_8 (by decide) (qs1 rfl (qs1 rfl (qs1 rfl (qs1 rfl (qs1 rfl qs0))))) ?_
  refine R_iconst (v := nI 0) dX3_rank_10 rfl ?_
  refine R_istore (L' := [(0, .ref 14), (1, .int (nI c)), (2, .int (nI q)), (3, .int (sqd d c q)), (4, .int (nI 0)), (5, .int (nI 0))]) dX3_rank_11 (by decide) (qs1 rfl (qs1 rfl (qs1 rfl (qs1 rfl (qs1 rfl (qs1 rfl qs0)))))) ?_
  refine R_ls (L' := [(0, .ref 14), (1, .int (nI c)), (2, .int (nI q)), (3, .int (sqd d c q)), (4, .int (nI 0)), (5, .int (nI 0))]) (qs1 rfl (qs1 rfl (qs1 rfl (qs1 rfl (qs1 rfl (qs1 rfl qs0)))))) ?_
  exact l_rank hX hB hc hq (dK d + 2) 0 (by omega) (by omega)
set_option maxRecDepth 100000 in
set_option maxHeartbeats 4000000 in
theorem c_arePair {M : qMem} {d : dT} (hX : XR 14 M d) (hB : dB d) {u v : Nat} (hu : u < dK d) (hv : v < dK d) : qSem 0 mX3_arePair [.ref 14, .int (nI u), .int (nI v)] M (qb (prb d u v = true) M) := by
  have hK6 := hB.2.1
  have hN := hB.2.2.2.2.1
  have h1 := rnkTo_le d u v (dK d)
  have h2 := rnkTo_le d v u (dK d)
  have e1 : rnk d u v = rnkTo d u v (dK d) := rfl
  have e2 : rnk d v u = rnkTo d v u (dK d) := rfl
  refine qSem.of (by decide +kernel) (Nat.le_of_ble_eq_true rfl) (fun w => ?_)
  refine R_ls (L' := [(0, .ref 14), (1, .int (nI u)), (2, .int (nI v))]) (qs1 rfl (qs1 rfl (qs1 rfl qs0))) ?_
  refine R_aload_n dX3_arePair_0 rfl ?_
  refine R_iload_n dX3_arePair_1 rfl ?_
  refine R_iload_n dX3_arePair_2 rfl ?_
  refine R_callV (mc := mX3_rank) (As := [_, _]) (r := 14) dX3_arePair_3 lm_RX3_58 mv_X3_rank rfl (by decide) rfl rfl rfl rfl (Nat.le_of_ble_eq_true rfl) (c_rank hX hB hu hv) ?_
  rintro _ _ ⟨rfl, rfl⟩
  refine R_aload_n dX3_arePair_6 rfl ?_
  refine R_getR dX3_arePair_7 lg_RX3_23 (by decide) rfl rfl ?_
  refine R_iconst (v := nI 1) dX3_arePair_10 rfl ?_
  refine R_ialdN dX3_arePair_11 (by decide) rfl (by omega) (by decide) ?_
  refine R_top (hX.2.2.2.2.2.2 1 (by omega)) ?_
  refine R_icmp_ltN (tgt := 30) dX3_arePair_12 (by decide) (by omega) (by omega) (fun h_12 => ?_) (fun h_12 => ?_)
  · refine R_iconst (v := nI 1) dX3_arePair_30 rfl ?_
    refine R_goto (tgt := 35) dX3_arePair_31 (by decide) ?_
    refine R_ireturn dX3_arePair_35 rfl rfl ?_
    exact ⟨rfl, by rw [prb_iff]; first | exact Or.inl ⟨rfl, by omega⟩ | exact Or.inr ⟨rfl, by omega⟩⟩
  · refine R_aload_n dX3_arePair_15 rfl ?_
    refine R_iload_n dX3_arePair_16 rfl ?_
    refine R_iload_n dX3_arePair_17 rfl ?_
    refine R_callV (mc := mX3_rank) (As := [_, _]) (r := 14) dX3_arePair_18 lm_RX3_58 mv_X3_rank rfl (by decide) rfl rfl rfl rfl (Nat.le_of_ble_eq_true rfl) (c_rank hX hB hv hu) ?_
    rintro _ _ ⟨rfl, rfl⟩
    refine R_aload_n dX3_arePair_21 rfl ?_
    refine R_getR dX3_arePair_22 lg_RX3_23 (by decide) rfl rfl ?_
    refine R_iconst (v := nI 1) dX3_arePair_25 rfl ?_
    refine R_ialdN dX3_arePair_26 (by decide) rfl (by omega) (by decide) ?_
    refine R_top (hX.2.2.2.2.2.2 1 (by omega)) ?_
    refine R_icmp_geN (tgt := 34) dX3_arePair_27 (by decide) (by omega) (by omega) (fun h_27 => ?_) (fun h_27 => ?_)
    · refine R_iconst (v := nI 0) dX3_arePair_34 rfl ?_
      refine R_ireturn dX3_arePair_35 rfl rfl ?_
      exact ⟨rfl, by rw [prb_iff]; first | exact Or.inl ⟨rfl, by omega⟩ | exact Or.inr ⟨rfl, by omega⟩⟩
    · refine R_iconst (v := nI 1) dX3_arePair_30 rfl ?_
      refine R_goto (tgt := 35) dX3_arePair_31 (by decide) ?_
      refine R_ireturn dX3_arePair_35 rfl rfl ?_
      exact ⟨rfl, by rw [prb_iff]; first | exact Or.inl ⟨rfl, by omega⟩ | exact Or.inr ⟨rfl, by omega⟩⟩
end
