-- ===== PART A: goes FIRST, ahead of the names: the tables' words, and 'selects' of the private methods out of them =====
/-- a private method of a class that the tables say can be made, by its rows of tables_1 -/
def lw_okq (q : MethodName × Nat) : Prop := (q.1.cls ≠ "java/lang/invoke/MethodHandle" ∧ q.1.cls ≠ "java/lang/invoke/VarHandle") ∧ Cond.instantiable q.1.cls q.2 ∈ tables_1 ∧ Cond.privateMethod q.1 ∈ tables_1 ∧ Cond.instanceMethod q.1 ∈ tables_1
theorem lw_p0 : lw_okq (⟨"NinetyNine", "forget", "()V"⟩, 15) := ⟨⟨by decide +kernel, by decide +kernel⟩, List.mem_of_getElem? (i := 15) (by decide +kernel), List.mem_of_getElem? (i := 384) (by decide +kernel), List.mem_of_getElem? (i := 385) (by decide +kernel)⟩
theorem lw_p1 : lw_okq (⟨"NinetyNine", "shelfAt", "(I)LNinetyNine$Shelf;"⟩, 15) := ⟨⟨by decide +kernel, by decide +kernel⟩, List.mem_of_getElem? (i := 15) (by decide +kernel), List.mem_of_getElem? (i := 392) (by decide +kernel), List.mem_of_getElem? (i := 393) (by decide +kernel)⟩
theorem lw_p2 : lw_okq (⟨"NinetyNine", "pieceFrom", "(LNinetyNine$Shelf;I)Z"⟩, 15) := ⟨⟨by decide +kernel, by decide +kernel⟩, List.mem_of_getElem? (i := 15) (by decide +kernel), List.mem_of_getElem? (i := 400) (by decide +kernel), List.mem_of_getElem? (i := 401) (by decide +kernel)⟩
theorem lw_p3 : lw_okq (⟨"NinetyNine$Work", "lacks", "(I)Z"⟩, 8) := ⟨⟨by decide +kernel, by decide +kernel⟩, List.mem_of_getElem? (i := 29) (by decide +kernel), List.mem_of_getElem? (i := 420) (by decide +kernel), List.mem_of_getElem? (i := 421) (by decide +kernel)⟩
theorem lw_p4 : lw_okq (⟨"NinetyNine$Work", "setOfPiece", "(III)V"⟩, 8) := ⟨⟨by decide +kernel, by decide +kernel⟩, List.mem_of_getElem? (i := 29) (by decide +kernel), List.mem_of_getElem? (i := 432) (by decide +kernel), List.mem_of_getElem? (i := 433) (by decide +kernel)⟩
theorem lw_p5 : lw_okq (⟨"NinetyNine$Changes", "dropOldest", "()V"⟩, 6) := ⟨⟨by decide +kernel, by decide +kernel⟩, List.mem_of_getElem? (i := 206) (by decide +kernel), List.mem_of_getElem? (i := 440) (by decide +kernel), List.mem_of_getElem? (i := 441) (by decide +kernel)⟩
theorem lw_p6 : lw_okq (⟨"NinetyNine$Tape", "readLine", "()Z"⟩, 5) := ⟨⟨by decide +kernel, by decide +kernel⟩, List.mem_of_getElem? (i := 143) (by decide +kernel), List.mem_of_getElem? (i := 473) (by decide +kernel), List.mem_of_getElem? (i := 474) (by decide +kernel)⟩
theorem lw_p7 : lw_okq (⟨"NinetyNine$Tape", "readLevel", "(II)Z"⟩, 5) := ⟨⟨by decide +kernel, by decide +kernel⟩, List.mem_of_getElem? (i := 143) (by decide +kernel), List.mem_of_getElem? (i := 477) (by decide +kernel), List.mem_of_getElem? (i := 478) (by decide +kernel)⟩
theorem lw_p8 : lw_okq (⟨"NinetyNine$Tape", "readOperand", "(I)Z"⟩, 5) := ⟨⟨by decide +kernel, by decide +kernel⟩, List.mem_of_getElem? (i := 143) (by decide +kernel), List.mem_of_getElem? (i := 481) (by decide +kernel), List.mem_of_getElem? (i := 482) (by decide +kernel)⟩
theorem lw_p9 : lw_okq (⟨"NinetyNine$Tape", "letter", "()I"⟩, 5) := ⟨⟨by decide +kernel, by decide +kernel⟩, List.mem_of_getElem? (i := 143) (by decide +kernel), List.mem_of_getElem? (i := 485) (by decide +kernel), List.mem_of_getElem? (i := 486) (by decide +kernel)⟩
theorem lw_p10 : lw_okq (⟨"NinetyNine$Tape", "readNumber", "()V"⟩, 5) := ⟨⟨by decide +kernel, by decide +kernel⟩, List.mem_of_getElem? (i := 143) (by decide +kernel), List.mem_of_getElem? (i := 492) (by decide +kernel), List.mem_of_getElem? (i := 493) (by decide +kernel)⟩
theorem lw_p11 : lw_okq (⟨"NinetyNine$Tape", "emit", "(I)V"⟩, 5) := ⟨⟨by decide +kernel, by decide +kernel⟩, List.mem_of_getElem? (i := 143) (by decide +kernel), List.mem_of_getElem? (i := 496) (by decide +kernel), List.mem_of_getElem? (i := 497) (by decide +kernel)⟩
theorem lw_p12 : lw_okq (⟨"NinetyNine$Tape", "accept", "(I)Z"⟩, 5) := ⟨⟨by decide +kernel, by decide +kernel⟩, List.mem_of_getElem? (i := 143) (by decide +kernel), List.mem_of_getElem? (i := 503) (by decide +kernel), List.mem_of_getElem? (i := 504) (by decide +kernel)⟩
theorem lw_p13 : lw_okq (⟨"NinetyNine", "now", "()LNinetyNine$Bar;"⟩, 15) := ⟨⟨by decide +kernel, by decide +kernel⟩, List.mem_of_getElem? (i := 15) (by decide +kernel), List.mem_of_getElem? (i := 528) (by decide +kernel), List.mem_of_getElem? (i := 529) (by decide +kernel)⟩
theorem lw_p14 : lw_okq (⟨"NinetyNine$Law", "pop", "()I"⟩, 6) := ⟨⟨by decide +kernel, by decide +kernel⟩, List.mem_of_getElem? (i := 167) (by decide +kernel), List.mem_of_getElem? (i := 575) (by decide +kernel), List.mem_of_getElem? (i := 576) (by decide +kernel)⟩
theorem lw_p15 : lw_okq (⟨"NinetyNine$Law", "worth", "(ILNinetyNine$Walk;I)I"⟩, 6) := ⟨⟨by decide +kernel, by decide +kernel⟩, List.mem_of_getElem? (i := 167) (by decide +kernel), List.mem_of_getElem? (i := 579) (by decide +kernel), List.mem_of_getElem? (i := 580) (by decide +kernel)⟩
def lw_privs_1 : List (MethodName × Nat) := [(⟨"NinetyNine", "forget", "()V"⟩, 15), (⟨"NinetyNine", "shelfAt", "(I)LNinetyNine$Shelf;"⟩, 15), (⟨"NinetyNine", "pieceFrom", "(LNinetyNine$Shelf;I)Z"⟩, 15), (⟨"NinetyNine$Work", "lacks", "(I)Z"⟩, 8), (⟨"NinetyNine$Work", "setOfPiece", "(III)V"⟩, 8), (⟨"NinetyNine$Changes", "dropOldest", "()V"⟩, 6), (⟨"NinetyNine$Tape", "readLine", "()Z"⟩, 5), (⟨"NinetyNine$Tape", "readLevel", "(II)Z"⟩, 5), (⟨"NinetyNine$Tape", "readOperand", "(I)Z"⟩, 5), (⟨"NinetyNine$Tape", "letter", "()I"⟩, 5), (⟨"NinetyNine$Tape", "readNumber", "()V"⟩, 5), (⟨"NinetyNine$Tape", "emit", "(I)V"⟩, 5), (⟨"NinetyNine$Tape", "accept", "(I)Z"⟩, 5), (⟨"NinetyNine", "now", "()LNinetyNine$Bar;"⟩, 15), (⟨"NinetyNine$Law", "pop", "()I"⟩, 6), (⟨"NinetyNine$Law", "worth", "(ILNinetyNine$Walk;I)I"⟩, 6)]
theorem lw_r1 : ∀ q ∈ lw_privs_1, lw_okq q := List.forall_mem_cons.mpr ⟨lw_p0, List.forall_mem_cons.mpr ⟨lw_p1, List.forall_mem_cons.mpr ⟨lw_p2, List.forall_mem_cons.mpr ⟨lw_p3, List.forall_mem_cons.mpr ⟨lw_p4, List.forall_mem_cons.mpr ⟨lw_p5, List.forall_mem_cons.mpr ⟨lw_p6, List.forall_mem_cons.mpr ⟨lw_p7, List.forall_mem_cons.mpr ⟨lw_p8, List.forall_mem_cons.mpr ⟨lw_p9, List.forall_mem_cons.mpr ⟨lw_p10, List.forall_mem_cons.mpr ⟨lw_p11, List.forall_mem_cons.mpr ⟨lw_p12, List.forall_mem_cons.mpr ⟨lw_p13, List.forall_mem_cons.mpr ⟨lw_p14, List.forall_mem_cons.mpr ⟨lw_p15, fun _ h => absurd h List.not_mem_nil⟩⟩⟩⟩⟩⟩⟩⟩⟩⟩⟩⟩⟩⟩⟩⟩
theorem lw_p16 : lw_okq (⟨"NinetyNine$Law", "push", "(I)V"⟩, 6) := ⟨⟨by decide +kernel, by decide +kernel⟩, List.mem_of_getElem? (i := 167) (by decide +kernel), List.mem_of_getElem? (i := 586) (by decide +kernel), List.mem_of_getElem? (i := 587) (by decide +kernel)⟩
theorem lw_p17 : lw_okq (⟨"NinetyNine$Bar", "lied", "(II)I"⟩, 6) := ⟨⟨by decide +kernel, by decide +kernel⟩, List.mem_of_getElem? (i := 23) (by decide +kernel), List.mem_of_getElem? (i := 594) (by decide +kernel), List.mem_of_getElem? (i := 595) (by decide +kernel)⟩
theorem lw_p18 : lw_okq (⟨"NinetyNine", "findEvenest", "()V"⟩, 15) := ⟨⟨by decide +kernel, by decide +kernel⟩, List.mem_of_getElem? (i := 15) (by decide +kernel), List.mem_of_getElem? (i := 679) (by decide +kernel), List.mem_of_getElem? (i := 680) (by decide +kernel)⟩
theorem lw_p19 : lw_okq (⟨"NinetyNine$Order", "has", "(I)Z"⟩, 2) := ⟨⟨by decide +kernel, by decide +kernel⟩, List.mem_of_getElem? (i := 193) (by decide +kernel), List.mem_of_getElem? (i := 695) (by decide +kernel), List.mem_of_getElem? (i := 696) (by decide +kernel)⟩
theorem lw_p20 : lw_okq (⟨"NinetyNine", "offBy", "(LNinetyNine$Order;)I"⟩, 15) := ⟨⟨by decide +kernel, by decide +kernel⟩, List.mem_of_getElem? (i := 15) (by decide +kernel), List.mem_of_getElem? (i := 703) (by decide +kernel), List.mem_of_getElem? (i := 704) (by decide +kernel)⟩
theorem lw_p21 : lw_okq (⟨"NinetyNine$Work", "copySettings", "(LNinetyNine$Work;)V"⟩, 8) := ⟨⟨by decide +kernel, by decide +kernel⟩, List.mem_of_getElem? (i := 29) (by decide +kernel), List.mem_of_getElem? (i := 711) (by decide +kernel), List.mem_of_getElem? (i := 712) (by decide +kernel)⟩
theorem lw_p22 : lw_okq (⟨"NinetyNine$Work", "copyPiece", "(ILNinetyNine$Work;I)V"⟩, 8) := ⟨⟨by decide +kernel, by decide +kernel⟩, List.mem_of_getElem? (i := 29) (by decide +kernel), List.mem_of_getElem? (i := 719) (by decide +kernel), List.mem_of_getElem? (i := 720) (by decide +kernel)⟩
theorem lw_p23 : lw_okq (⟨"NinetyNine$Order", "swap", "(II)V"⟩, 2) := ⟨⟨by decide +kernel, by decide +kernel⟩, List.mem_of_getElem? (i := 193) (by decide +kernel), List.mem_of_getElem? (i := 728) (by decide +kernel), List.mem_of_getElem? (i := 729) (by decide +kernel)⟩
theorem lw_p24 : lw_okq (⟨"NinetyNine", "trialShows", "(LNinetyNine$Shelf;I)Z"⟩, 15) := ⟨⟨by decide +kernel, by decide +kernel⟩, List.mem_of_getElem? (i := 15) (by decide +kernel), List.mem_of_getElem? (i := 789) (by decide +kernel), List.mem_of_getElem? (i := 790) (by decide +kernel)⟩
theorem lw_p25 : lw_okq (⟨"NinetyNine", "leastToShow", "(IILNinetyNine$Shelf;I)I"⟩, 15) := ⟨⟨by decide +kernel, by decide +kernel⟩, List.mem_of_getElem? (i := 15) (by decide +kernel), List.mem_of_getElem? (i := 805) (by decide +kernel), List.mem_of_getElem? (i := 806) (by decide +kernel)⟩
theorem lw_p26 : lw_okq (⟨"NinetyNine$Steps", "own", "(III)I"⟩, 5) := ⟨⟨by decide +kernel, by decide +kernel⟩, List.mem_of_getElem? (i := 264) (by decide +kernel), List.mem_of_getElem? (i := 911) (by decide +kernel), List.mem_of_getElem? (i := 912) (by decide +kernel)⟩
theorem lw_p27 : lw_okq (⟨"NinetyNine$Steps", "from", "(IIII)I"⟩, 5) := ⟨⟨by decide +kernel, by decide +kernel⟩, List.mem_of_getElem? (i := 264) (by decide +kernel), List.mem_of_getElem? (i := 915) (by decide +kernel), List.mem_of_getElem? (i := 916) (by decide +kernel)⟩
theorem lw_p28 : lw_okq (⟨"NinetyNine$Steps", "note", "(I)V"⟩, 5) := ⟨⟨by decide +kernel, by decide +kernel⟩, List.mem_of_getElem? (i := 264) (by decide +kernel), List.mem_of_getElem? (i := 929) (by decide +kernel), List.mem_of_getElem? (i := 930) (by decide +kernel)⟩
theorem lw_p29 : lw_okq (⟨"NinetyNine$Steps", "does", "(IIII)I"⟩, 5) := ⟨⟨by decide +kernel, by decide +kernel⟩, List.mem_of_getElem? (i := 264) (by decide +kernel), List.mem_of_getElem? (i := 933) (by decide +kernel), List.mem_of_getElem? (i := 934) (by decide +kernel)⟩
theorem lw_p30 : lw_okq (⟨"NinetyNine$Shelf", "lowest", "(J)J"⟩, 5) := ⟨⟨by decide +kernel, by decide +kernel⟩, List.mem_of_getElem? (i := 289) (by decide +kernel), List.mem_of_getElem? (i := 978) (by decide +kernel), List.mem_of_getElem? (i := 979) (by decide +kernel)⟩
theorem lw_p31 : lw_okq (⟨"NinetyNineModel", "newPiece", "(III)I"⟩, 53) := ⟨⟨by decide +kernel, by decide +kernel⟩, List.mem_of_getElem? (i := 1009) (by decide +kernel), List.mem_of_getElem? (i := 1182) (by decide +kernel), List.mem_of_getElem? (i := 1183) (by decide +kernel)⟩
def lw_privs_2 : List (MethodName × Nat) := [(⟨"NinetyNine$Law", "push", "(I)V"⟩, 6), (⟨"NinetyNine$Bar", "lied", "(II)I"⟩, 6), (⟨"NinetyNine", "findEvenest", "()V"⟩, 15), (⟨"NinetyNine$Order", "has", "(I)Z"⟩, 2), (⟨"NinetyNine", "offBy", "(LNinetyNine$Order;)I"⟩, 15), (⟨"NinetyNine$Work", "copySettings", "(LNinetyNine$Work;)V"⟩, 8), (⟨"NinetyNine$Work", "copyPiece", "(ILNinetyNine$Work;I)V"⟩, 8), (⟨"NinetyNine$Order", "swap", "(II)V"⟩, 2), (⟨"NinetyNine", "trialShows", "(LNinetyNine$Shelf;I)Z"⟩, 15), (⟨"NinetyNine", "leastToShow", "(IILNinetyNine$Shelf;I)I"⟩, 15), (⟨"NinetyNine$Steps", "own", "(III)I"⟩, 5), (⟨"NinetyNine$Steps", "from", "(IIII)I"⟩, 5), (⟨"NinetyNine$Steps", "note", "(I)V"⟩, 5), (⟨"NinetyNine$Steps", "does", "(IIII)I"⟩, 5), (⟨"NinetyNine$Shelf", "lowest", "(J)J"⟩, 5), (⟨"NinetyNineModel", "newPiece", "(III)I"⟩, 53)]
theorem lw_r2 : ∀ q ∈ lw_privs_2, lw_okq q := List.forall_mem_cons.mpr ⟨lw_p16, List.forall_mem_cons.mpr ⟨lw_p17, List.forall_mem_cons.mpr ⟨lw_p18, List.forall_mem_cons.mpr ⟨lw_p19, List.forall_mem_cons.mpr ⟨lw_p20, List.forall_mem_cons.mpr ⟨lw_p21, List.forall_mem_cons.mpr ⟨lw_p22, List.forall_mem_cons.mpr ⟨lw_p23, List.forall_mem_cons.mpr ⟨lw_p24, List.forall_mem_cons.mpr ⟨lw_p25, List.forall_mem_cons.mpr ⟨lw_p26, List.forall_mem_cons.mpr ⟨lw_p27, List.forall_mem_cons.mpr ⟨lw_p28, List.forall_mem_cons.mpr ⟨lw_p29, List.forall_mem_cons.mpr ⟨lw_p30, List.forall_mem_cons.mpr ⟨lw_p31, fun _ h => absurd h List.not_mem_nil⟩⟩⟩⟩⟩⟩⟩⟩⟩⟩⟩⟩⟩⟩⟩⟩
theorem lw_p32 : lw_okq (⟨"NinetyNineModel", "isOf", "(II)Z"⟩, 53) := ⟨⟨by decide +kernel, by decide +kernel⟩, List.mem_of_getElem? (i := 1009) (by decide +kernel), List.mem_of_getElem? (i := 1198) (by decide +kernel), List.mem_of_getElem? (i := 1199) (by decide +kernel)⟩
theorem lw_p33 : lw_okq (⟨"NinetyNineModel", "isPiece", "(I)Z"⟩, 53) := ⟨⟨by decide +kernel, by decide +kernel⟩, List.mem_of_getElem? (i := 1009) (by decide +kernel), List.mem_of_getElem? (i := 1202) (by decide +kernel), List.mem_of_getElem? (i := 1203) (by decide +kernel)⟩
theorem lw_p34 : lw_okq (⟨"NinetyNineModel", "get", "(II)I"⟩, 53) := ⟨⟨by decide +kernel, by decide +kernel⟩, List.mem_of_getElem? (i := 1009) (by decide +kernel), List.mem_of_getElem? (i := 1209) (by decide +kernel), List.mem_of_getElem? (i := 1210) (by decide +kernel)⟩
theorem lw_p35 : lw_okq (⟨"NinetyNineModel", "becomes", "(III)V"⟩, 53) := ⟨⟨by decide +kernel, by decide +kernel⟩, List.mem_of_getElem? (i := 1009) (by decide +kernel), List.mem_of_getElem? (i := 1213) (by decide +kernel), List.mem_of_getElem? (i := 1214) (by decide +kernel)⟩
theorem lw_p36 : lw_okq (⟨"NinetyNineModel", "takes", "(I)I"⟩, 53) := ⟨⟨by decide +kernel, by decide +kernel⟩, List.mem_of_getElem? (i := 1009) (by decide +kernel), List.mem_of_getElem? (i := 1221) (by decide +kernel), List.mem_of_getElem? (i := 1222) (by decide +kernel)⟩
theorem lw_p37 : lw_okq (⟨"NinetyNineModel", "all", "()I"⟩, 53) := ⟨⟨by decide +kernel, by decide +kernel⟩, List.mem_of_getElem? (i := 1009) (by decide +kernel), List.mem_of_getElem? (i := 1225) (by decide +kernel), List.mem_of_getElem? (i := 1226) (by decide +kernel)⟩
theorem lw_p38 : lw_okq (⟨"NinetyNineModel", "isLine", "()Z"⟩, 53) := ⟨⟨by decide +kernel, by decide +kernel⟩, List.mem_of_getElem? (i := 1009) (by decide +kernel), List.mem_of_getElem? (i := 1245) (by decide +kernel), List.mem_of_getElem? (i := 1246) (by decide +kernel)⟩
theorem lw_p39 : lw_okq (⟨"NinetyNineModel", "isE", "()Z"⟩, 53) := ⟨⟨by decide +kernel, by decide +kernel⟩, List.mem_of_getElem? (i := 1009) (by decide +kernel), List.mem_of_getElem? (i := 1249) (by decide +kernel), List.mem_of_getElem? (i := 1250) (by decide +kernel)⟩
theorem lw_p40 : lw_okq (⟨"NinetyNineModel", "isA", "()Z"⟩, 53) := ⟨⟨by decide +kernel, by decide +kernel⟩, List.mem_of_getElem? (i := 1009) (by decide +kernel), List.mem_of_getElem? (i := 1253) (by decide +kernel), List.mem_of_getElem? (i := 1254) (by decide +kernel)⟩
theorem lw_p41 : lw_okq (⟨"NinetyNineModel", "isB", "()Z"⟩, 53) := ⟨⟨by decide +kernel, by decide +kernel⟩, List.mem_of_getElem? (i := 1009) (by decide +kernel), List.mem_of_getElem? (i := 1257) (by decide +kernel), List.mem_of_getElem? (i := 1258) (by decide +kernel)⟩
theorem lw_p42 : lw_okq (⟨"NinetyNineModel", "isS", "()Z"⟩, 53) := ⟨⟨by decide +kernel, by decide +kernel⟩, List.mem_of_getElem? (i := 1009) (by decide +kernel), List.mem_of_getElem? (i := 1261) (by decide +kernel), List.mem_of_getElem? (i := 1262) (by decide +kernel)⟩
theorem lw_p43 : lw_okq (⟨"NinetyNineModel", "isP", "()Z"⟩, 53) := ⟨⟨by decide +kernel, by decide +kernel⟩, List.mem_of_getElem? (i := 1009) (by decide +kernel), List.mem_of_getElem? (i := 1265) (by decide +kernel), List.mem_of_getElem? (i := 1266) (by decide +kernel)⟩
theorem lw_p44 : lw_okq (⟨"NinetyNineModel", "isO", "()Z"⟩, 53) := ⟨⟨by decide +kernel, by decide +kernel⟩, List.mem_of_getElem? (i := 1009) (by decide +kernel), List.mem_of_getElem? (i := 1269) (by decide +kernel), List.mem_of_getElem? (i := 1270) (by decide +kernel)⟩
theorem lw_p45 : lw_okq (⟨"NinetyNineModel", "isDigit", "()Z"⟩, 53) := ⟨⟨by decide +kernel, by decide +kernel⟩, List.mem_of_getElem? (i := 1009) (by decide +kernel), List.mem_of_getElem? (i := 1273) (by decide +kernel), List.mem_of_getElem? (i := 1274) (by decide +kernel)⟩
theorem lw_p46 : lw_okq (⟨"NinetyNineModel", "sign", "()I"⟩, 53) := ⟨⟨by decide +kernel, by decide +kernel⟩, List.mem_of_getElem? (i := 1009) (by decide +kernel), List.mem_of_getElem? (i := 1277) (by decide +kernel), List.mem_of_getElem? (i := 1278) (by decide +kernel)⟩
theorem lw_p47 : lw_okq (⟨"NinetyNineModel", "codes", "(I)Z"⟩, 53) := ⟨⟨by decide +kernel, by decide +kernel⟩, List.mem_of_getElem? (i := 1009) (by decide +kernel), List.mem_of_getElem? (i := 1281) (by decide +kernel), List.mem_of_getElem? (i := 1282) (by decide +kernel)⟩
def lw_privs_3 : List (MethodName × Nat) := [(⟨"NinetyNineModel", "isOf", "(II)Z"⟩, 53), (⟨"NinetyNineModel", "isPiece", "(I)Z"⟩, 53), (⟨"NinetyNineModel", "get", "(II)I"⟩, 53), (⟨"NinetyNineModel", "becomes", "(III)V"⟩, 53), (⟨"NinetyNineModel", "takes", "(I)I"⟩, 53), (⟨"NinetyNineModel", "all", "()I"⟩, 53), (⟨"NinetyNineModel", "isLine", "()Z"⟩, 53), (⟨"NinetyNineModel", "isE", "()Z"⟩, 53), (⟨"NinetyNineModel", "isA", "()Z"⟩, 53), (⟨"NinetyNineModel", "isB", "()Z"⟩, 53), (⟨"NinetyNineModel", "isS", "()Z"⟩, 53), (⟨"NinetyNineModel", "isP", "()Z"⟩, 53), (⟨"NinetyNineModel", "isO", "()Z"⟩, 53), (⟨"NinetyNineModel", "isDigit", "()Z"⟩, 53), (⟨"NinetyNineModel", "sign", "()I"⟩, 53), (⟨"NinetyNineModel", "codes", "(I)Z"⟩, 53)]
theorem lw_r3 : ∀ q ∈ lw_privs_3, lw_okq q := List.forall_mem_cons.mpr ⟨lw_p32, List.forall_mem_cons.mpr ⟨lw_p33, List.forall_mem_cons.mpr ⟨lw_p34, List.forall_mem_cons.mpr ⟨lw_p35, List.forall_mem_cons.mpr ⟨lw_p36, List.forall_mem_cons.mpr ⟨lw_p37, List.forall_mem_cons.mpr ⟨lw_p38, List.forall_mem_cons.mpr ⟨lw_p39, List.forall_mem_cons.mpr ⟨lw_p40, List.forall_mem_cons.mpr ⟨lw_p41, List.forall_mem_cons.mpr ⟨lw_p42, List.forall_mem_cons.mpr ⟨lw_p43, List.forall_mem_cons.mpr ⟨lw_p44, List.forall_mem_cons.mpr ⟨lw_p45, List.forall_mem_cons.mpr ⟨lw_p46, List.forall_mem_cons.mpr ⟨lw_p47, fun _ h => absurd h List.not_mem_nil⟩⟩⟩⟩⟩⟩⟩⟩⟩⟩⟩⟩⟩⟩⟩⟩
theorem lw_p48 : lw_okq (⟨"NinetyNineModel", "is", "(I)Z"⟩, 53) := ⟨⟨by decide +kernel, by decide +kernel⟩, List.mem_of_getElem? (i := 1009) (by decide +kernel), List.mem_of_getElem? (i := 1288) (by decide +kernel), List.mem_of_getElem? (i := 1289) (by decide +kernel)⟩
theorem lw_p49 : lw_okq (⟨"NinetyNineModel", "lines", "()V"⟩, 53) := ⟨⟨by decide +kernel, by decide +kernel⟩, List.mem_of_getElem? (i := 1009) (by decide +kernel), List.mem_of_getElem? (i := 1299) (by decide +kernel), List.mem_of_getElem? (i := 1300) (by decide +kernel)⟩
theorem lw_p50 : lw_okq (⟨"NinetyNineModel", "runs", "(I)V"⟩, 53) := ⟨⟨by decide +kernel, by decide +kernel⟩, List.mem_of_getElem? (i := 1009) (by decide +kernel), List.mem_of_getElem? (i := 1303) (by decide +kernel), List.mem_of_getElem? (i := 1304) (by decide +kernel)⟩
theorem lw_p51 : lw_okq (⟨"NinetyNineModel", "byLaw", "(I)I"⟩, 53) := ⟨⟨by decide +kernel, by decide +kernel⟩, List.mem_of_getElem? (i := 1009) (by decide +kernel), List.mem_of_getElem? (i := 1312) (by decide +kernel), List.mem_of_getElem? (i := 1313) (by decide +kernel)⟩
theorem lw_p52 : lw_okq (⟨"NinetyNineModel", "worked", "(III)I"⟩, 53) := ⟨⟨by decide +kernel, by decide +kernel⟩, List.mem_of_getElem? (i := 1009) (by decide +kernel), List.mem_of_getElem? (i := 1316) (by decide +kernel), List.mem_of_getElem? (i := 1317) (by decide +kernel)⟩
theorem lw_p53 : lw_okq (⟨"NinetyNineModel", "run", "()V"⟩, 53) := ⟨⟨by decide +kernel, by decide +kernel⟩, List.mem_of_getElem? (i := 1009) (by decide +kernel), List.mem_of_getElem? (i := 1327) (by decide +kernel), List.mem_of_getElem? (i := 1328) (by decide +kernel)⟩
theorem lw_p54 : lw_okq (⟨"NinetyNineModel", "many", "(I)I"⟩, 53) := ⟨⟨by decide +kernel, by decide +kernel⟩, List.mem_of_getElem? (i := 1009) (by decide +kernel), List.mem_of_getElem? (i := 1331) (by decide +kernel), List.mem_of_getElem? (i := 1332) (by decide +kernel)⟩
theorem lw_p55 : lw_okq (⟨"NinetyNineModel", "looks", "()V"⟩, 53) := ⟨⟨by decide +kernel, by decide +kernel⟩, List.mem_of_getElem? (i := 1009) (by decide +kernel), List.mem_of_getElem? (i := 1339) (by decide +kernel), List.mem_of_getElem? (i := 1340) (by decide +kernel)⟩
theorem lw_p56 : lw_okq (⟨"NinetyNineModel", "remainsBy", "(II)I"⟩, 53) := ⟨⟨by decide +kernel, by decide +kernel⟩, List.mem_of_getElem? (i := 1009) (by decide +kernel), List.mem_of_getElem? (i := 1352) (by decide +kernel), List.mem_of_getElem? (i := 1353) (by decide +kernel)⟩
theorem lw_p57 : lw_okq (⟨"NinetyNineModel", "offBy", "(I)I"⟩, 53) := ⟨⟨by decide +kernel, by decide +kernel⟩, List.mem_of_getElem? (i := 1009) (by decide +kernel), List.mem_of_getElem? (i := 1360) (by decide +kernel), List.mem_of_getElem? (i := 1361) (by decide +kernel)⟩
theorem lw_p58 : lw_okq (⟨"NinetyNineModel", "deadBy", "(I)I"⟩, 53) := ⟨⟨by decide +kernel, by decide +kernel⟩, List.mem_of_getElem? (i := 1009) (by decide +kernel), List.mem_of_getElem? (i := 1368) (by decide +kernel), List.mem_of_getElem? (i := 1369) (by decide +kernel)⟩
theorem lw_p59 : lw_okq (⟨"NinetyNineModel", "nextOrder", "()Z"⟩, 53) := ⟨⟨by decide +kernel, by decide +kernel⟩, List.mem_of_getElem? (i := 1009) (by decide +kernel), List.mem_of_getElem? (i := 1384) (by decide +kernel), List.mem_of_getElem? (i := 1385) (by decide +kernel)⟩
theorem lw_p60 : lw_okq (⟨"NinetyNineModel", "exchange", "(II)V"⟩, 53) := ⟨⟨by decide +kernel, by decide +kernel⟩, List.mem_of_getElem? (i := 1009) (by decide +kernel), List.mem_of_getElem? (i := 1388) (by decide +kernel), List.mem_of_getElem? (i := 1389) (by decide +kernel)⟩
theorem lw_p61 : lw_okq (⟨"NinetyNineModel", "noRow", "(I)I"⟩, 53) := ⟨⟨by decide +kernel, by decide +kernel⟩, List.mem_of_getElem? (i := 1009) (by decide +kernel), List.mem_of_getElem? (i := 1396) (by decide +kernel), List.mem_of_getElem? (i := 1397) (by decide +kernel)⟩
theorem lw_p62 : lw_okq (⟨"NinetyNineModel", "toldAt", "(II)I"⟩, 53) := ⟨⟨by decide +kernel, by decide +kernel⟩, List.mem_of_getElem? (i := 1009) (by decide +kernel), List.mem_of_getElem? (i := 1400) (by decide +kernel), List.mem_of_getElem? (i := 1401) (by decide +kernel)⟩
theorem lw_p63 : lw_okq (⟨"NinetyNineModel", "comeBehind", "(I)V"⟩, 53) := ⟨⟨by decide +kernel, by decide +kernel⟩, List.mem_of_getElem? (i := 1009) (by decide +kernel), List.mem_of_getElem? (i := 1404) (by decide +kernel), List.mem_of_getElem? (i := 1405) (by decide +kernel)⟩
def lw_privs_4 : List (MethodName × Nat) := [(⟨"NinetyNineModel", "is", "(I)Z"⟩, 53), (⟨"NinetyNineModel", "lines", "()V"⟩, 53), (⟨"NinetyNineModel", "runs", "(I)V"⟩, 53), (⟨"NinetyNineModel", "byLaw", "(I)I"⟩, 53), (⟨"NinetyNineModel", "worked", "(III)I"⟩, 53), (⟨"NinetyNineModel", "run", "()V"⟩, 53), (⟨"NinetyNineModel", "many", "(I)I"⟩, 53), (⟨"NinetyNineModel", "looks", "()V"⟩, 53), (⟨"NinetyNineModel", "remainsBy", "(II)I"⟩, 53), (⟨"NinetyNineModel", "offBy", "(I)I"⟩, 53), (⟨"NinetyNineModel", "deadBy", "(I)I"⟩, 53), (⟨"NinetyNineModel", "nextOrder", "()Z"⟩, 53), (⟨"NinetyNineModel", "exchange", "(II)V"⟩, 53), (⟨"NinetyNineModel", "noRow", "(I)I"⟩, 53), (⟨"NinetyNineModel", "toldAt", "(II)I"⟩, 53), (⟨"NinetyNineModel", "comeBehind", "(I)V"⟩, 53)]
theorem lw_r4 : ∀ q ∈ lw_privs_4, lw_okq q := List.forall_mem_cons.mpr ⟨lw_p48, List.forall_mem_cons.mpr ⟨lw_p49, List.forall_mem_cons.mpr ⟨lw_p50, List.forall_mem_cons.mpr ⟨lw_p51, List.forall_mem_cons.mpr ⟨lw_p52, List.forall_mem_cons.mpr ⟨lw_p53, List.forall_mem_cons.mpr ⟨lw_p54, List.forall_mem_cons.mpr ⟨lw_p55, List.forall_mem_cons.mpr ⟨lw_p56, List.forall_mem_cons.mpr ⟨lw_p57, List.forall_mem_cons.mpr ⟨lw_p58, List.forall_mem_cons.mpr ⟨lw_p59, List.forall_mem_cons.mpr ⟨lw_p60, List.forall_mem_cons.mpr ⟨lw_p61, List.forall_mem_cons.mpr ⟨lw_p62, List.forall_mem_cons.mpr ⟨lw_p63, fun _ h => absurd h List.not_mem_nil⟩⟩⟩⟩⟩⟩⟩⟩⟩⟩⟩⟩⟩⟩⟩⟩
theorem lw_p64 : lw_okq (⟨"NinetyNineModel", "wrong", "(II)I"⟩, 53) := ⟨⟨by decide +kernel, by decide +kernel⟩, List.mem_of_getElem? (i := 1009) (by decide +kernel), List.mem_of_getElem? (i := 1429) (by decide +kernel), List.mem_of_getElem? (i := 1430) (by decide +kernel)⟩
theorem lw_p65 : lw_okq (⟨"NinetyNineModel", "fills", "(III)I"⟩, 53) := ⟨⟨by decide +kernel, by decide +kernel⟩, List.mem_of_getElem? (i := 1009) (by decide +kernel), List.mem_of_getElem? (i := 1486) (by decide +kernel), List.mem_of_getElem? (i := 1487) (by decide +kernel)⟩
theorem lw_p66 : lw_okq (⟨"NinetyNineModel", "ran", "(I)V"⟩, 53) := ⟨⟨by decide +kernel, by decide +kernel⟩, List.mem_of_getElem? (i := 1009) (by decide +kernel), List.mem_of_getElem? (i := 1490) (by decide +kernel), List.mem_of_getElem? (i := 1491) (by decide +kernel)⟩
theorem lw_p67 : lw_okq (⟨"NinetyNineModel", "shows", "(III)I"⟩, 53) := ⟨⟨by decide +kernel, by decide +kernel⟩, List.mem_of_getElem? (i := 1009) (by decide +kernel), List.mem_of_getElem? (i := 1497) (by decide +kernel), List.mem_of_getElem? (i := 1498) (by decide +kernel)⟩
theorem lw_p68 : lw_okq (⟨"NinetyNineModel", "standsBy", "(III)I"⟩, 53) := ⟨⟨by decide +kernel, by decide +kernel⟩, List.mem_of_getElem? (i := 1009) (by decide +kernel), List.mem_of_getElem? (i := 1501) (by decide +kernel), List.mem_of_getElem? (i := 1502) (by decide +kernel)⟩
theorem lw_p69 : lw_okq (⟨"NinetyNineModel", "tells", "(III)I"⟩, 53) := ⟨⟨by decide +kernel, by decide +kernel⟩, List.mem_of_getElem? (i := 1009) (by decide +kernel), List.mem_of_getElem? (i := 1505) (by decide +kernel), List.mem_of_getElem? (i := 1506) (by decide +kernel)⟩
theorem lw_p70 : lw_okq (⟨"NinetyNineModel", "isRow", "(I)Z"⟩, 53) := ⟨⟨by decide +kernel, by decide +kernel⟩, List.mem_of_getElem? (i := 1009) (by decide +kernel), List.mem_of_getElem? (i := 1525) (by decide +kernel), List.mem_of_getElem? (i := 1526) (by decide +kernel)⟩
def lw_privs_5 : List (MethodName × Nat) := [(⟨"NinetyNineModel", "wrong", "(II)I"⟩, 53), (⟨"NinetyNineModel", "fills", "(III)I"⟩, 53), (⟨"NinetyNineModel", "ran", "(I)V"⟩, 53), (⟨"NinetyNineModel", "shows", "(III)I"⟩, 53), (⟨"NinetyNineModel", "standsBy", "(III)I"⟩, 53), (⟨"NinetyNineModel", "tells", "(III)I"⟩, 53), (⟨"NinetyNineModel", "isRow", "(I)Z"⟩, 53)]
theorem lw_r5 : ∀ q ∈ lw_privs_5, lw_okq q := List.forall_mem_cons.mpr ⟨lw_p64, List.forall_mem_cons.mpr ⟨lw_p65, List.forall_mem_cons.mpr ⟨lw_p66, List.forall_mem_cons.mpr ⟨lw_p67, List.forall_mem_cons.mpr ⟨lw_p68, List.forall_mem_cons.mpr ⟨lw_p69, List.forall_mem_cons.mpr ⟨lw_p70, fun _ h => absurd h List.not_mem_nil⟩⟩⟩⟩⟩⟩⟩
def lw_privs : List (MethodName × Nat) := lw_privs_1 ++ (lw_privs_2 ++ (lw_privs_3 ++ (lw_privs_4 ++ (lw_privs_5))))
def lw_tbl : List Cond := k2_sels lw_privs ++ tables_1
theorem lw_privs_ok : ∀ q ∈ lw_privs, lw_okq q := by
  show ∀ q ∈ lw_privs_1 ++ (lw_privs_2 ++ (lw_privs_3 ++ (lw_privs_4 ++ (lw_privs_5)))), lw_okq q
  exact List.forall_mem_append.mpr ⟨lw_r1, List.forall_mem_append.mpr ⟨lw_r2, List.forall_mem_append.mpr ⟨lw_r3, List.forall_mem_append.mpr ⟨lw_r4, lw_r5⟩⟩⟩⟩
/-! NAMES AND WORDS of this claim -/
def k9_T1 : u_T := fun k => match k with
  | 0 => (k9_s1, "ba\x72", "LNinetyNine$Bar;", true)
  | 1 => (k9_s1, "trial", "LNinetyNine$Bar;", true)
  | 2 => (k9_s1, "tape", "LNinetyNine$Tape;", true)
  | 3 => (k9_s1, "law", "LNinetyNine$Law;", true)
  | 4 => (k9_s1, "tried", "LNinetyNine$Order;", true)
  | 5 => (k9_s1, "evenest", "LNinetyNine$Order;", true)
  | 6 => (k9_s1, "changes", "LNinetyNine$Changes;", true)
  | 7 => (k9_s1, "waits", "LNinetyNine$Waits;", true)
  | 8 => (k9_s1, "kept", "LNinetyNine$Waits;", true)
  | 9 => (k9_s1, "steps", "LNinetyNine$Steps;", true)
  | 10 => (k9_s1, "shelves", "[LNinetyNine$Shelf;", true)
  | 11 => (k9_s1, "imaged", "Z", false)
  | 12 => (k9_s1, "rolled", "Z", false)
  | 13 => (k9_s1, "ordered", "Z", false)
  | _ => (k9_s1, "evenestOff", "I", false)
def k9_T2 : u_T := fun k => match k with
  | 0 => (k9_s2, "work", "LNinetyNine$Work;", true)
  | 1 => (k9_s2, "walk", "LNinetyNine$Walk;", true)
  | 2 => (k9_s2, "come", "[I", true)
  | 3 => (k9_s2, "shown", "[I", true)
  | 4 => (k9_s2, "length", "I", false)
  | _ => (k9_s2, "allBytes", "I", false)
def k9_T3 : u_T := fun k => match k with
  | 0 => (k9_s3, "count", "I", false)
  | 1 => (k9_s3, "measure", "I", false)
  | 2 => (k9_s3, "smooth", "I", false)
  | 3 => (k9_s3, "neve\x72", "I", false)
  | 4 => (k9_s3, "bytes", "[I", true)
  | 5 => (k9_s3, "speed", "[I", true)
  | 6 => (k9_s3, "stuck", "[I", true)
  | _ => (k9_s3, "files", "[I", true)
def k9_T4 : u_T := fun k => match k with
  | 0 => (k9_s4, "come", "I", false)
  | 1 => (k9_s4, "filesCent", "I", false)
  | 2 => (k9_s4, "bytesCent", "I", false)
  | 3 => (k9_s4, "stepsCent", "I", false)
  | 4 => (k9_s4, "timeCent", "I", false)
  | 5 => (k9_s4, "pieces", "I", false)
  | 6 => (k9_s4, "done", "I", false)
  | 7 => (k9_s4, "begin", "I", false)
  | 8 => (k9_s4, "end", "I", false)
  | 9 => (k9_s4, "bytesDone", "I", false)
  | 10 => (k9_s4, "filesDone", "I", false)
  | 11 => (k9_s4, "allBytes", "I", false)
  | 12 => (k9_s4, "allFiles", "I", false)
  | _ => (k9_s4, "length", "I", false)
def k9_T5 : u_T := fun k => match k with
  | 0 => (k9_s5, "count", "I", false)
  | 1 => (k9_s5, "size", "I", false)
  | 2 => (k9_s5, "letters", "[I", true)
  | 3 => (k9_s5, "code", "[I", true)
  | _ => (k9_s5, "place", "I", false)
def k9_T6 : u_T := fun k => match k with
  | 0 => (k9_s6, "looksBack", "Z", false)
  | 1 => (k9_s6, "hasText", "Z", false)
  | 2 => (k9_s6, "code", "[I", true)
  | 3 => (k9_s6, "size", "I", false)
  | 4 => (k9_s6, "stack", "[I", true)
  | _ => (k9_s6, "top", "I", false)
def k9_T7 : u_T := fun k => match k with
  | 0 => (k9_s7, "row", "[I", true)
  | _ => (k9_s7, "count", "I", false)
def k9_T8 : u_T := fun k => match k with
  | 0 => (k9_s8, "done", "I", false)
  | 1 => (k9_s8, "undone", "I", false)
  | 2 => (k9_s8, "numbe\x72", "[I", true)
  | 3 => (k9_s8, "what", "[I", true)
  | 4 => (k9_s8, "before", "[I", true)
  | _ => (k9_s8, "behind", "[I", true)
def k9_T9 : u_T := fun k => match k with
  | 0 => (k9_s9, "on", "Z", false)
  | 1 => (k9_s9, "second", "I", false)
  | 2 => (k9_s9, "begun", "I", false)
  | 3 => (k9_s9, "ended", "I", false)
  | 4 => (k9_s9, "cancelled", "I", false)
  | 5 => (k9_s9, "passed", "I", false)
  | _ => (k9_s9, "lost", "I", false)
def k9_T10 : u_T := fun k => match k with
  | 0 => (k9_s10, "count", "I", false)
  | 1 => (k9_s10, "ran", "I", false)
  | 2 => (k9_s10, "kinds", "[I", true)
  | 3 => (k9_s10, "trace", "[I", true)
  | _ => (k9_s10, "self", "I", false)
def k9_T11 : u_T := fun k => match k with
  | 0 => (k9_s11, "holds", "I", false)
  | 1 => (k9_s11, "body", "I", false)
  | 2 => (k9_s11, "sort", "I", false)
  | 3 => (k9_s11, "size", "I", false)
  | _ => (k9_s11, "cells", "[J", true)
def k9_T12 : u_T := fun k => match k with
  | 0 => (k9_s12, "pieces", "I", false)
  | 1 => (k9_s12, "bytes", "[I", true)
  | 2 => (k9_s12, "speed", "[I", true)
  | 3 => (k9_s12, "stuck", "[I", true)
  | 4 => (k9_s12, "files", "[I", true)
  | 5 => (k9_s12, "ways", "[I", true)
  | 6 => (k9_s12, "taped", "I", false)
  | 7 => (k9_s12, "tape", "[I", true)
  | 8 => (k9_s12, "isTold", "Z", false)
  | 9 => (k9_s12, "lines", "I", false)
  | 10 => (k9_s12, "asks", "[I", true)
  | 11 => (k9_s12, "says", "[I", true)
  | 12 => (k9_s12, "ends", "[I", true)
  | 13 => (k9_s12, "code", "[I", true)
  | 14 => (k9_s12, "at", "I", false)
  | 15 => (k9_s12, "open", "I", false)
  | 16 => (k9_s12, "coded", "I", false)
  | 17 => (k9_s12, "newLines", "I", false)
  | 18 => (k9_s12, "newAsks", "[I", true)
  | 19 => (k9_s12, "newSays", "[I", true)
  | 20 => (k9_s12, "newEnds", "[I", true)
  | 21 => (k9_s12, "newCode", "[I", true)
  | 22 => (k9_s12, "stack", "[I", true)
  | 23 => (k9_s12, "second", "I", false)
  | 24 => (k9_s12, "led", "[I", true)
  | 25 => (k9_s12, "imaged", "Z", false)
  | 26 => (k9_s12, "oldSecond", "I", false)
  | 27 => (k9_s12, "oldLed", "[I", true)
  | 28 => (k9_s12, "changes", "I", false)
  | 29 => (k9_s12, "done", "I", false)
  | 30 => (k9_s12, "changed", "[I", true)
  | 31 => (k9_s12, "bodies", "I", false)
  | 32 => (k9_s12, "kind", "[I", true)
  | 33 => (k9_s12, "traced", "I", false)
  | 34 => (k9_s12, "traces", "[I", true)
  | 35 => (k9_s12, "holding", "[I", true)
  | 36 => (k9_s12, "rowLength", "[I", true)
  | 37 => (k9_s12, "rowOf", "[J", true)
  | 38 => (k9_s12, "line", "[I", true)
  | 39 => (k9_s12, "whole", "I", false)
  | 40 => (k9_s12, "come", "[I", true)
  | 41 => (k9_s12, "cents", "[I", true)
  | 42 => (k9_s12, "times", "[I", true)
  | 43 => (k9_s12, "shown", "[I", true)
  | 44 => (k9_s12, "mostOff", "I", false)
  | 45 => (k9_s12, "sumOff", "I", false)
  | 46 => (k9_s12, "whenOff", "I", false)
  | 47 => (k9_s12, "standsLong", "I", false)
  | 48 => (k9_s12, "standsFrom", "I", false)
  | 49 => (k9_s12, "best", "[I", true)
  | 50 => (k9_s12, "orders", "[I", true)
  | 51 => (k9_s12, "kept", "[I", true)
  | _ => (k9_s12, "own", "[I", true)
abbrev vwCl : List vw_C := [(k9_s1, k9_T1, 15), (k9_s2, k9_T2, 6), (k9_s3, k9_T3, 8), (k9_s4, k9_T4, 14), (k9_s5, k9_T5, 5), (k9_s6, k9_T6, 6), (k9_s7, k9_T7, 2), (k9_s8, k9_T8, 6), (k9_s9, k9_T9, 7), (k9_s10, k9_T10, 5), (k9_s11, k9_T11, 5), (k9_s12, k9_T12, 53)]
abbrev k9_tys (dT : Nat → ClassId) : List (ClassId × FieldType) := [(dT 1, .int), (dT 2, .long), (dT 3, .object k9_rc)]
def k9_tabs : List (Nat × String × String × String) := [
  (80, k9_s3, "LEAST", "[I"),
  (81, k9_s3, "MOST", "[I"),
  (82, k9_s10, "ABOVE", "[I"),
  (83, k9_s10, "BODY_OF", "[I")]
def k9_nms : List (List MethodName) := [
  [⟨k9_s3, "allows", "(II)Z"⟩, ⟨k9_s3, "least", "(I)I"⟩, ⟨k9_s3, "most", "(I)I"⟩, ⟨k9_s3, "lacks", "(I)Z"⟩, ⟨k9_s3, "has", "(II)Z"⟩, ⟨k9_s3, "get", "(II)I"⟩, ⟨k9_s3, "set", "(III)V"⟩, ⟨k9_s3, "setOfPiece", "(III)V"⟩, ⟨k9_s3, "add", "(III)V"⟩, ⟨k9_s3, "takes", "(I)I"⟩, ⟨k9_s3, "length", "()I"⟩, ⟨k9_s3, "allBytes", "()I"⟩, ⟨k9_s3, "allFiles", "()I"⟩, ⟨k9_s3, "part", "(II)I"⟩, ⟨k9_s3, "largest", "()I"⟩, ⟨k9_s3, "copy", "(LNinetyNine$Work;)V"⟩],
  [⟨k9_s3, "arrange", "(LNinetyNine$Work;LNinetyNine$Order;)V"⟩, ⟨k9_s3, "copySettings", "(LNinetyNine$Work;)V"⟩, ⟨k9_s3, "copyPiece", "(ILNinetyNine$Work;I)V"⟩, ⟨k9_s3, "drawSpeeds", "(I)I"⟩, ⟨k9_s4, "start", "(LNinetyNine$Work;)V"⟩, ⟨k9_s4, "go", "(LNinetyNine$Work;I)V"⟩, ⟨k9_s4, "cent", "(I)I"⟩, ⟨k9_s4, "truth", "(II)I"⟩, ⟨k9_s4, "share", "(II)I"⟩, ⟨k9_s7, "pieceAt", "(I)I"⟩, ⟨k9_s7, "empty", "()V"⟩, ⟨k9_s7, "copy", "(LNinetyNine$Order;)V"⟩, ⟨k9_s7, "add", "(II)V"⟩, ⟨k9_s7, "has", "(I)Z"⟩, ⟨k9_s7, "addOthers", "(I)V"⟩, ⟨k9_s7, "lead", "(III)V"⟩],
  [⟨k9_s7, "toNext", "()Z"⟩, ⟨k9_s7, "swap", "(II)V"⟩, ⟨k9_s5, "add", "(I)Z"⟩, ⟨k9_s5, "codeAt", "(I)I"⟩, ⟨k9_s5, "read", "()I"⟩, ⟨k9_s5, "readLine", "()Z"⟩, ⟨k9_s5, "readLevel", "(II)Z"⟩, ⟨k9_s5, "readOperand", "(I)Z"⟩, ⟨k9_s5, "readNumbe\x72", "()V"⟩, ⟨k9_s5, "lette\x72", "()I"⟩, ⟨k9_s5, "accept", "(I)Z"⟩, ⟨k9_s5, "emit", "(I)V"⟩, ⟨k9_s5, "isDigit", "(I)Z"⟩, ⟨k9_s5, "isName", "(I)Z"⟩, ⟨k9_s5, "joins", "(II)Z"⟩, ⟨k9_s6, "take", "(LNinetyNine$Tape;)V"⟩],
  [⟨k9_s6, "value", "(LNinetyNine$Walk;I)I"⟩, ⟨k9_s6, "worth", "(ILNinetyNine$Walk;I)I"⟩, ⟨k9_s6, "joined", "(III)I"⟩, ⟨k9_s6, "push", "(I)V"⟩, ⟨k9_s6, "pop", "()I"⟩, ⟨k9_s2, "looksBack", "(LNinetyNine$Law;)Z"⟩, ⟨k9_s2, "roll", "(LNinetyNine$Law;II)V"⟩, ⟨k9_s2, "lied", "(II)I"⟩, ⟨k9_s2, "shownIn", "(I)I"⟩, ⟨k9_s2, "comeIn", "(I)I"⟩, ⟨k9_s2, "centOf", "(II)I"⟩, ⟨k9_s2, "secondsAt", "(I)I"⟩, ⟨k9_s2, "longestStand", "(II)I"⟩, ⟨k9_s2, "offTruth", "(I)I"⟩, ⟨k9_s2, "remaining", "(II)I"⟩, ⟨k9_s2, "guessesOff", "(I)I"⟩],
  [⟨k9_s2, "deadSecond", "(I)I"⟩, ⟨k9_s2, "pleasure", "()I"⟩, ⟨k9_s2, "firstUnlike", "(LNinetyNine$Shelf;I)I"⟩, ⟨k9_s8, "add", "(IIII)V"⟩, ⟨k9_s8, "dropOldest", "()V"⟩, ⟨k9_s8, "takeBack", "(LNinetyNine$Work;)Z"⟩, ⟨k9_s8, "doAgain", "(LNinetyNine$Work;)Z"⟩, ⟨k9_s9, "start", "()V"⟩, ⟨k9_s9, "go", "(I)V"⟩, ⟨k9_s9, "end", "()V"⟩, ⟨k9_s9, "breakOff", "(I)V"⟩, ⟨k9_s9, "tell", "(I)I"⟩, ⟨k9_s9, "copy", "(LNinetyNine$Waits;)V"⟩, ⟨k9_s10, "add", "(I)Z"⟩, ⟨k9_s10, "kindOf", "(I)I"⟩, ⟨k9_s10, "isUnde\x72", "(II)Z"⟩],
  [⟨k9_s10, "kindAbove", "(I)I"⟩, ⟨k9_s10, "traced", "()I"⟩, ⟨k9_s10, "traceAt", "(I)I"⟩, ⟨k9_s10, "run", "(III)I"⟩, ⟨k9_s10, "own", "(III)I"⟩, ⟨k9_s10, "from", "(IIII)I"⟩, ⟨k9_s10, "bodyIn", "(II)I"⟩, ⟨k9_s10, "note", "(I)V"⟩, ⟨k9_s10, "does", "(IIII)I"⟩, ⟨k9_s11, "hold", "(I)V"⟩, ⟨k9_s11, "holdRow", "(II)V"⟩, ⟨k9_s11, "isBytes", "()Z"⟩, ⟨k9_s11, "noBytes", "()I"⟩, ⟨k9_s11, "refusal", "(II)I"⟩, ⟨k9_s11, "get", "(I)J"⟩, ⟨k9_s11, "byteAt", "(I)I"⟩],
  [⟨k9_s11, "set", "(IJ)V"⟩, ⟨k9_s11, "lowest", "(J)J"⟩, ⟨k9_s11, "take", "(LNinetyNine$Shelf;III)V"⟩, ⟨k9_s1, "piece", "(II)I"⟩, ⟨k9_s1, "pieces", "(III)I"⟩, ⟨k9_s1, "mend", "(III)I"⟩, ⟨k9_s1, "of", "(II)I"⟩, ⟨k9_s1, "feed", "(I)I"⟩, ⟨k9_s1, "law", "()I"⟩, ⟨k9_s1, "showing", "(II)I"⟩, ⟨k9_s1, "seconds", "(I)I"⟩, ⟨k9_s1, "standing", "(I)I"⟩, ⟨k9_s1, "off", "(I)I"⟩, ⟨k9_s1, "remains", "(II)I"⟩, ⟨k9_s1, "best", "(I)I"⟩, ⟨k9_s1, "dead", "(II)I"⟩],
  [⟨k9_s1, "patience", "()I"⟩, ⟨k9_s1, "tea", "(II)I"⟩, ⟨k9_s1, "orde\x72", "(I)I"⟩, ⟨k9_s1, "told", "(I)I"⟩, ⟨k9_s1, "where", "(I)I"⟩, ⟨k9_s1, "measure", "(I)I"⟩, ⟨k9_s1, "pleases", "(I)I"⟩, ⟨k9_s1, "trust", "(II)I"⟩, ⟨k9_s1, "judge", "(II)I"⟩, ⟨k9_s1, "which", "(II)I"⟩, ⟨k9_s1, "since", "(I)I"⟩, ⟨k9_s1, "stuck", "(II)I"⟩, ⟨k9_s1, "speed", "(III)I"⟩, ⟨k9_s1, "drawn", "(IIII)I"⟩, ⟨k9_s1, "begin", "()I"⟩, ⟨k9_s1, "pass", "(I)I"⟩],
  [⟨k9_s1, "cancel", "()I"⟩, ⟨k9_s1, "led", "(I)I"⟩, ⟨k9_s1, "image", "()I"⟩, ⟨k9_s1, "back", "()I"⟩, ⟨k9_s1, "undo", "()I"⟩, ⟨k9_s1, "redo", "()I"⟩, ⟨k9_s1, "body", "(I)I"⟩, ⟨k9_s1, "act", "(III)I"⟩, ⟨k9_s1, "trace", "(I)I"⟩, ⟨k9_s1, "keep", "(II)I"⟩, ⟨k9_s1, "row", "(III)I"⟩, ⟨k9_s1, "put", "(IIJ)I"⟩, ⟨k9_s1, "element", "(II)J"⟩, ⟨k9_s1, "shift", "(IIIII)I"⟩, ⟨k9_s1, "taken", "(II)I"⟩, ⟨k9_s1, "count", "(I)I"⟩],
  [⟨k9_s1, "shelfAt", "(I)LNinetyNine$Shelf;"⟩, ⟨k9_s1, "noSecond", "(I)Z"⟩, ⟨k9_s1, "pieceFrom", "(LNinetyNine$Shelf;I)Z"⟩, ⟨k9_s1, "forget", "()V"⟩, ⟨k9_s1, "now", "()LNinetyNine$Bar;"⟩, ⟨k9_s1, "offBy", "(LNinetyNine$Order;)I"⟩, ⟨k9_s1, "findEvenest", "()V"⟩, ⟨k9_s1, "trialShows", "(LNinetyNine$Shelf;I)Z"⟩, ⟨k9_s1, "leastToShow", "(IILNinetyNine$Shelf;I)I"⟩, ⟨k9_s12, "within", "(III)Z"⟩, ⟨k9_s12, "isPiece", "(I)Z"⟩, ⟨k9_s12, "isSecond", "(I)Z"⟩, ⟨k9_s12, "isShelf", "(I)Z"⟩, ⟨k9_s12, "newPiece", "(III)I"⟩, ⟨k9_s12, "piece", "(II)I"⟩, ⟨k9_s12, "pieces", "(III)I"⟩],
  [⟨k9_s12, "isOf", "(II)Z"⟩, ⟨k9_s12, "isFit", "(II)Z"⟩, ⟨k9_s12, "get", "(II)I"⟩, ⟨k9_s12, "becomes", "(III)V"⟩, ⟨k9_s12, "mend", "(III)I"⟩, ⟨k9_s12, "of", "(II)I"⟩, ⟨k9_s12, "undo", "()I"⟩, ⟨k9_s12, "redo", "()I"⟩, ⟨k9_s12, "feed", "(I)I"⟩, ⟨k9_s12, "sign", "()I"⟩, ⟨k9_s12, "is", "(I)Z"⟩, ⟨k9_s12, "codes", "(I)Z"⟩, ⟨k9_s12, "isDigit", "()Z"⟩, ⟨k9_s12, "nameOf", "(I)I"⟩, ⟨k9_s12, "isO", "()Z"⟩, ⟨k9_s12, "isP", "()Z"⟩],
  [⟨k9_s12, "isS", "()Z"⟩, ⟨k9_s12, "isB", "()Z"⟩, ⟨k9_s12, "isA", "()Z"⟩, ⟨k9_s12, "isE", "()Z"⟩, ⟨k9_s12, "isLine", "()Z"⟩, ⟨k9_s12, "law", "()I"⟩, ⟨k9_s12, "both", "(III)I"⟩, ⟨k9_s12, "worked", "(III)I"⟩, ⟨k9_s12, "takes", "(I)I"⟩, ⟨k9_s12, "all", "()I"⟩, ⟨k9_s12, "centOf", "(II)I"⟩, ⟨k9_s12, "byLaw", "(I)I"⟩, ⟨k9_s12, "runs", "(I)V"⟩, ⟨k9_s12, "lines", "()V"⟩, ⟨k9_s12, "run", "()V"⟩, ⟨k9_s12, "looks", "()V"⟩],
  [⟨k9_s12, "showing", "(II)I"⟩, ⟨k9_s12, "many", "(I)I"⟩, ⟨k9_s12, "seconds", "(I)I"⟩, ⟨k9_s12, "standing", "(I)I"⟩, ⟨k9_s12, "off", "(I)I"⟩, ⟨k9_s12, "remainsBy", "(II)I"⟩, ⟨k9_s12, "remains", "(II)I"⟩, ⟨k9_s12, "offBy", "(I)I"⟩, ⟨k9_s12, "best", "(I)I"⟩, ⟨k9_s12, "deadBy", "(I)I"⟩, ⟨k9_s12, "dead", "(II)I"⟩, ⟨k9_s12, "patience", "()I"⟩, ⟨k9_s12, "tea", "(II)I"⟩, ⟨k9_s12, "nextOrde\x72", "()Z"⟩, ⟨k9_s12, "exchange", "(II)V"⟩, ⟨k9_s12, "orde\x72", "(I)I"⟩],
  [⟨k9_s12, "noRow", "(I)I"⟩, ⟨k9_s12, "toldAt", "(II)I"⟩, ⟨k9_s12, "comeBehind", "(I)V"⟩, ⟨k9_s12, "told", "(I)I"⟩, ⟨k9_s12, "where", "(I)I"⟩, ⟨k9_s12, "measure", "(I)I"⟩, ⟨k9_s12, "pleases", "(I)I"⟩, ⟨k9_s12, "trust", "(II)I"⟩, ⟨k9_s12, "wrong", "(II)I"⟩, ⟨k9_s12, "judge", "(II)I"⟩, ⟨k9_s12, "which", "(II)I"⟩, ⟨k9_s12, "since", "(I)I"⟩, ⟨k9_s12, "stuck", "(II)I"⟩, ⟨k9_s12, "speed", "(III)I"⟩, ⟨k9_s12, "drawn", "(IIII)I"⟩, ⟨k9_s12, "begin", "()I"⟩],
  [⟨k9_s12, "pass", "(I)I"⟩, ⟨k9_s12, "cancel", "()I"⟩, ⟨k9_s12, "led", "(I)I"⟩, ⟨k9_s12, "image", "()I"⟩, ⟨k9_s12, "back", "()I"⟩, ⟨k9_s12, "above", "(I)I"⟩, ⟨k9_s12, "ran", "(I)V"⟩, ⟨k9_s12, "fills", "(III)I"⟩, ⟨k9_s12, "shows", "(III)I"⟩, ⟨k9_s12, "standsBy", "(III)I"⟩, ⟨k9_s12, "tells", "(III)I"⟩, ⟨k9_s12, "body", "(I)I"⟩, ⟨k9_s12, "act", "(III)I"⟩, ⟨k9_s12, "trace", "(I)I"⟩, ⟨k9_s12, "keep", "(II)I"⟩, ⟨k9_s12, "row", "(III)I"⟩],
  [⟨k9_s12, "isRow", "(I)Z"⟩, ⟨k9_s12, "kept", "(IJ)J"⟩, ⟨k9_s12, "put", "(IIJ)I"⟩, ⟨k9_s12, "element", "(II)J"⟩, ⟨k9_s12, "shift", "(IIIII)I"⟩, ⟨k9_s12, "taken", "(II)I"⟩, ⟨k9_s12, "count", "(I)I"⟩, x]]
def k9_nm (y : Nat) : MethodName := k9_nt2 x k9_nms y
def k9_bys : List (List ByteArray) := [
  [prog_11_method_2_code, prog_11_method_3_code, prog_11_method_4_code, prog_11_method_5_code, prog_11_method_6_code, prog_11_method_7_code, prog_11_method_8_code, prog_11_method_9_code, prog_11_method_10_code, prog_11_method_11_code, prog_11_method_12_code, prog_11_method_13_code, prog_11_method_14_code, prog_11_method_15_code, prog_11_method_16_code, prog_11_method_17_code],
  [prog_11_method_18_code, prog_11_method_19_code, prog_11_method_20_code, prog_11_method_21_code, prog_10_method_2_code, prog_10_method_3_code, prog_10_method_4_code, prog_10_method_5_code, prog_10_method_6_code, prog_5_method_2_code, prog_5_method_3_code, prog_5_method_4_code, prog_5_method_5_code, prog_5_method_6_code, prog_5_method_7_code, prog_5_method_8_code],
  [prog_5_method_9_code, prog_5_method_10_code, prog_8_method_2_code, prog_8_method_3_code, prog_8_method_4_code, prog_8_method_5_code, prog_8_method_6_code, prog_8_method_7_code, prog_8_method_8_code, prog_8_method_9_code, prog_8_method_10_code, prog_8_method_11_code, prog_8_method_12_code, prog_8_method_13_code, prog_8_method_14_code, prog_4_method_2_code],
  [prog_4_method_3_code, prog_4_method_4_code, prog_4_method_5_code, prog_4_method_6_code, prog_4_method_7_code, prog_2_method_2_code, prog_2_method_3_code, prog_2_method_4_code, prog_2_method_5_code, prog_2_method_6_code, prog_2_method_7_code, prog_2_method_8_code, prog_2_method_9_code, prog_2_method_10_code, prog_2_method_11_code, prog_2_method_12_code],
  [prog_2_method_13_code, prog_2_method_14_code, prog_2_method_15_code, prog_3_method_2_code, prog_3_method_3_code, prog_3_method_4_code, prog_3_method_5_code, prog_9_method_2_code, prog_9_method_3_code, prog_9_method_4_code, prog_9_method_5_code, prog_9_method_6_code, prog_9_method_7_code, prog_7_method_2_code, prog_7_method_3_code, prog_7_method_4_code],
  [prog_7_method_5_code, prog_7_method_6_code, prog_7_method_7_code, prog_7_method_8_code, prog_7_method_9_code, prog_7_method_10_code, prog_7_method_11_code, prog_7_method_12_code, prog_7_method_13_code, prog_6_method_2_code, prog_6_method_3_code, prog_6_method_4_code, prog_6_method_5_code, prog_6_method_6_code, prog_6_method_7_code, prog_6_method_8_code],
  [prog_6_method_9_code, prog_6_method_10_code, prog_6_method_11_code, prog_1_method_2_code, prog_1_method_3_code, prog_1_method_4_code, prog_1_method_5_code, prog_1_method_6_code, prog_1_method_7_code, prog_1_method_8_code, prog_1_method_9_code, prog_1_method_10_code, prog_1_method_11_code, prog_1_method_12_code, prog_1_method_13_code, prog_1_method_14_code],
  [prog_1_method_15_code, prog_1_method_16_code, prog_1_method_17_code, prog_1_method_18_code, prog_1_method_19_code, prog_1_method_20_code, prog_1_method_21_code, prog_1_method_22_code, prog_1_method_23_code, prog_1_method_24_code, prog_1_method_25_code, prog_1_method_26_code, prog_1_method_27_code, prog_1_method_28_code, prog_1_method_29_code, prog_1_method_30_code],
  [prog_1_method_31_code, prog_1_method_32_code, prog_1_method_33_code, prog_1_method_34_code, prog_1_method_35_code, prog_1_method_36_code, prog_1_method_37_code, prog_1_method_38_code, prog_1_method_39_code, prog_1_method_40_code, prog_1_method_41_code, prog_1_method_42_code, prog_1_method_43_code, prog_1_method_44_code, prog_1_method_45_code, prog_1_method_46_code],
  [prog_1_method_47_code, prog_1_method_48_code, prog_1_method_49_code, prog_1_method_50_code, prog_1_method_51_code, prog_1_method_52_code, prog_1_method_53_code, prog_1_method_54_code, prog_1_method_55_code, prog_13_method_2_code, prog_13_method_3_code, prog_13_method_4_code, prog_13_method_5_code, prog_13_method_6_code, prog_13_method_7_code, prog_13_method_8_code],
  [prog_13_method_9_code, prog_13_method_10_code, prog_13_method_11_code, prog_13_method_12_code, prog_13_method_13_code, prog_13_method_14_code, prog_13_method_15_code, prog_13_method_16_code, prog_13_method_17_code, prog_13_method_18_code, prog_13_method_19_code, prog_13_method_20_code, prog_13_method_21_code, prog_13_method_22_code, prog_13_method_23_code, prog_13_method_24_code],
  [prog_13_method_25_code, prog_13_method_26_code, prog_13_method_27_code, prog_13_method_28_code, prog_13_method_29_code, prog_13_method_30_code, prog_13_method_31_code, prog_13_method_32_code, prog_13_method_33_code, prog_13_method_34_code, prog_13_method_35_code, prog_13_method_36_code, prog_13_method_37_code, prog_13_method_38_code, prog_13_method_39_code, prog_13_method_40_code],
  [prog_13_method_41_code, prog_13_method_42_code, prog_13_method_43_code, prog_13_method_44_code, prog_13_method_45_code, prog_13_method_46_code, prog_13_method_47_code, prog_13_method_48_code, prog_13_method_49_code, prog_13_method_50_code, prog_13_method_51_code, prog_13_method_52_code, prog_13_method_53_code, prog_13_method_54_code, prog_13_method_55_code, prog_13_method_56_code],
  [prog_13_method_57_code, prog_13_method_58_code, prog_13_method_59_code, prog_13_method_60_code, prog_13_method_61_code, prog_13_method_62_code, prog_13_method_63_code, prog_13_method_64_code, prog_13_method_65_code, prog_13_method_66_code, prog_13_method_67_code, prog_13_method_68_code, prog_13_method_69_code, prog_13_method_70_code, prog_13_method_71_code, prog_13_method_72_code],
  [prog_13_method_73_code, prog_13_method_74_code, prog_13_method_75_code, prog_13_method_76_code, prog_13_method_77_code, prog_13_method_78_code, prog_13_method_79_code, prog_13_method_80_code, prog_13_method_81_code, prog_13_method_82_code, prog_13_method_83_code, prog_13_method_84_code, prog_13_method_85_code, prog_13_method_86_code, prog_13_method_87_code, prog_13_method_88_code],
  [prog_13_method_89_code, prog_13_method_90_code, prog_13_method_91_code, prog_13_method_92_code, prog_13_method_93_code, prog_13_method_94_code, prog_13_method_95_code, code]]
def k9_by (y : Nat) : ByteArray := k9_nt2 code k9_bys y
def k9_rts : List (List (Option FieldType)) := [
  [some .boolean, some .int, some .int, some .boolean, some .boolean, some .int, none, none, none, some .int, some .int, some .int, some .int, some .int, some .int, none],
  [none, none, none, some .int, none, none, some .int, some .int, some .int, some .int, none, none, none, some .boolean, none, none],
  [some .boolean, none, some .boolean, some .int, some .int, some .boolean, some .boolean, some .boolean, none, some .int, some .boolean, none, some .boolean, some .boolean, some .boolean, none],
  [some .int, some .int, some .int, none, some .int, some .boolean, none, some .int, some .int, some .int, some .int, some .int, some .int, some .int, some .int, some .int],
  [some .int, some .int, some .int, none, none, some .boolean, some .boolean, none, none, none, none, some .int, none, some .boolean, some .int, some .boolean],
  [some .int, some .int, some .int, some .int, some .int, some .int, some .int, none, some .int, none, none, some .boolean, some .int, some .int, some .long, some .int],
  [none, some .long, none, some .int, some .int, some .int, some .int, some .int, some .int, some .int, some .int, some .int, some .int, some .int, some .int, some .int],
  [some .int, some .int, some .int, some .int, some .int, some .int, some .int, some .int, some .int, some .int, some .int, some .int, some .int, some .int, some .int, some .int],
  [some .int, some .int, some .int, some .int, some .int, some .int, some .int, some .int, some .int, some .int, some .int, some .int, some .long, some .int, some .int, some .int],
  [some (.object "NinetyNine$Shelf"), some .boolean, some .boolean, none, some (.object "NinetyNine$Ba\x72"), some .int, none, some .boolean, some .int, some .boolean, some .boolean, some .boolean, some .boolean, some .int, some .int, some .int],
  [some .boolean, some .boolean, some .int, none, some .int, some .int, some .int, some .int, some .int, some .int, some .boolean, some .boolean, some .boolean, some .int, some .boolean, some .boolean],
  [some .boolean, some .boolean, some .boolean, some .boolean, some .boolean, some .int, some .int, some .int, some .int, some .int, some .int, some .int, none, none, none, none],
  [some .int, some .int, some .int, some .int, some .int, some .int, some .int, some .int, some .int, some .int, some .int, some .int, some .int, some .boolean, none, some .int],
  [some .int, some .int, none, some .int, some .int, some .int, some .int, some .int, some .int, some .int, some .int, some .int, some .int, some .int, some .int, some .int],
  [some .int, some .int, some .int, some .int, some .int, some .int, none, some .int, some .int, some .int, some .int, some .int, some .int, some .int, some .int, some .int],
  [some .boolean, some .long, some .int, some .long, some .int, some .int, some .int, some .boolean]]
def k9_rt (y : Nat) : Option FieldType := k9_nt2 none k9_rts y
def k9_B0 : List Cond := [
  .laysFinal k9_s1 k9_s1 "ba\x72" "LNinetyNine$Bar;",
  .laysFinal k9_s1 k9_s1 "trial" "LNinetyNine$Bar;",
  .laysFinal k9_s1 k9_s1 "tape" "LNinetyNine$Tape;",
  .laysFinal k9_s1 k9_s1 "law" "LNinetyNine$Law;",
  .laysFinal k9_s1 k9_s1 "tried" "LNinetyNine$Order;",
  .laysFinal k9_s1 k9_s1 "evenest" "LNinetyNine$Order;",
  .laysFinal k9_s1 k9_s1 "changes" "LNinetyNine$Changes;",
  .laysFinal k9_s1 k9_s1 "waits" "LNinetyNine$Waits;",
  .laysFinal k9_s1 k9_s1 "kept" "LNinetyNine$Waits;",
  .laysFinal k9_s1 k9_s1 "steps" "LNinetyNine$Steps;",
  .laysFinal k9_s1 k9_s1 "shelves" "[LNinetyNine$Shelf;",
  .lays k9_s1 k9_s1 "imaged" "Z",
  .lays k9_s1 k9_s1 "rolled" "Z",
  .lays k9_s1 k9_s1 "ordered" "Z",
  .lays k9_s1 k9_s1 "evenestOff" "I",
  .laysFinal k9_s2 k9_s2 "work" "LNinetyNine$Work;",
  .laysFinal k9_s2 k9_s2 "walk" "LNinetyNine$Walk;",
  .laysFinal k9_s2 k9_s2 "come" "[I",
  .laysFinal k9_s2 k9_s2 "shown" "[I",
  .lays k9_s2 k9_s2 "length" "I",
  .lays k9_s2 k9_s2 "allBytes" "I",
  .lays k9_s3 k9_s3 "count" "I",
  .lays k9_s3 k9_s3 "measure" "I",
  .lays k9_s3 k9_s3 "smooth" "I",
  .lays k9_s3 k9_s3 "neve\x72" "I",
  .laysFinal k9_s3 k9_s3 "bytes" "[I",
  .laysFinal k9_s3 k9_s3 "speed" "[I",
  .laysFinal k9_s3 k9_s3 "stuck" "[I",
  .laysFinal k9_s3 k9_s3 "files" "[I",
  .lays k9_s4 k9_s4 "come" "I",
  .lays k9_s4 k9_s4 "filesCent" "I",
  .lays k9_s4 k9_s4 "bytesCent" "I",
  .lays k9_s4 k9_s4 "stepsCent" "I",
  .lays k9_s4 k9_s4 "timeCent" "I",
  .lays k9_s4 k9_s4 "pieces" "I",
  .lays k9_s4 k9_s4 "done" "I",
  .lays k9_s4 k9_s4 "begin" "I",
  .lays k9_s4 k9_s4 "end" "I",
  .lays k9_s4 k9_s4 "bytesDone" "I",
  .lays k9_s4 k9_s4 "filesDone" "I",
  .lays k9_s4 k9_s4 "allBytes" "I",
  .lays k9_s4 k9_s4 "allFiles" "I",
  .lays k9_s4 k9_s4 "length" "I",
  .lays k9_s5 k9_s5 "count" "I",
  .lays k9_s5 k9_s5 "size" "I",
  .laysFinal k9_s5 k9_s5 "letters" "[I",
  .laysFinal k9_s5 k9_s5 "code" "[I",
  .lays k9_s5 k9_s5 "place" "I",
  .lays k9_s6 k9_s6 "looksBack" "Z",
  .lays k9_s6 k9_s6 "hasText" "Z"]
def k9_B1 : List Cond := [
  .laysFinal k9_s6 k9_s6 "code" "[I",
  .lays k9_s6 k9_s6 "size" "I",
  .laysFinal k9_s6 k9_s6 "stack" "[I",
  .lays k9_s6 k9_s6 "top" "I",
  .laysFinal k9_s7 k9_s7 "row" "[I",
  .lays k9_s7 k9_s7 "count" "I",
  .lays k9_s8 k9_s8 "done" "I",
  .lays k9_s8 k9_s8 "undone" "I",
  .laysFinal k9_s8 k9_s8 "numbe\x72" "[I",
  .laysFinal k9_s8 k9_s8 "what" "[I",
  .laysFinal k9_s8 k9_s8 "before" "[I",
  .laysFinal k9_s8 k9_s8 "behind" "[I",
  .lays k9_s9 k9_s9 "on" "Z",
  .lays k9_s9 k9_s9 "second" "I",
  .lays k9_s9 k9_s9 "begun" "I",
  .lays k9_s9 k9_s9 "ended" "I",
  .lays k9_s9 k9_s9 "cancelled" "I",
  .lays k9_s9 k9_s9 "passed" "I",
  .lays k9_s9 k9_s9 "lost" "I",
  .lays k9_s10 k9_s10 "count" "I",
  .lays k9_s10 k9_s10 "ran" "I",
  .laysFinal k9_s10 k9_s10 "kinds" "[I",
  .laysFinal k9_s10 k9_s10 "trace" "[I",
  .lays k9_s10 k9_s10 "self" "I",
  .lays k9_s11 k9_s11 "holds" "I",
  .lays k9_s11 k9_s11 "body" "I",
  .lays k9_s11 k9_s11 "sort" "I",
  .lays k9_s11 k9_s11 "size" "I",
  .laysFinal k9_s11 k9_s11 "cells" "[J",
  .lays k9_s12 k9_s12 "pieces" "I",
  .laysFinal k9_s12 k9_s12 "bytes" "[I",
  .laysFinal k9_s12 k9_s12 "speed" "[I",
  .laysFinal k9_s12 k9_s12 "stuck" "[I",
  .laysFinal k9_s12 k9_s12 "files" "[I",
  .laysFinal k9_s12 k9_s12 "ways" "[I",
  .lays k9_s12 k9_s12 "taped" "I",
  .laysFinal k9_s12 k9_s12 "tape" "[I",
  .lays k9_s12 k9_s12 "isTold" "Z",
  .lays k9_s12 k9_s12 "lines" "I",
  .laysFinal k9_s12 k9_s12 "asks" "[I",
  .laysFinal k9_s12 k9_s12 "says" "[I",
  .laysFinal k9_s12 k9_s12 "ends" "[I",
  .laysFinal k9_s12 k9_s12 "code" "[I",
  .lays k9_s12 k9_s12 "at" "I",
  .lays k9_s12 k9_s12 "open" "I",
  .lays k9_s12 k9_s12 "coded" "I",
  .lays k9_s12 k9_s12 "newLines" "I",
  .laysFinal k9_s12 k9_s12 "newAsks" "[I",
  .laysFinal k9_s12 k9_s12 "newSays" "[I",
  .laysFinal k9_s12 k9_s12 "newEnds" "[I"]
def k9_B2 : List Cond := [
  .laysFinal k9_s12 k9_s12 "newCode" "[I",
  .laysFinal k9_s12 k9_s12 "stack" "[I",
  .lays k9_s12 k9_s12 "second" "I",
  .laysFinal k9_s12 k9_s12 "led" "[I",
  .lays k9_s12 k9_s12 "imaged" "Z",
  .lays k9_s12 k9_s12 "oldSecond" "I",
  .laysFinal k9_s12 k9_s12 "oldLed" "[I",
  .lays k9_s12 k9_s12 "changes" "I",
  .lays k9_s12 k9_s12 "done" "I",
  .laysFinal k9_s12 k9_s12 "changed" "[I",
  .lays k9_s12 k9_s12 "bodies" "I",
  .laysFinal k9_s12 k9_s12 "kind" "[I",
  .lays k9_s12 k9_s12 "traced" "I",
  .laysFinal k9_s12 k9_s12 "traces" "[I",
  .laysFinal k9_s12 k9_s12 "holding" "[I",
  .laysFinal k9_s12 k9_s12 "rowLength" "[I",
  .laysFinal k9_s12 k9_s12 "rowOf" "[J",
  .laysFinal k9_s12 k9_s12 "line" "[I",
  .lays k9_s12 k9_s12 "whole" "I",
  .laysFinal k9_s12 k9_s12 "come" "[I",
  .laysFinal k9_s12 k9_s12 "cents" "[I",
  .laysFinal k9_s12 k9_s12 "times" "[I",
  .laysFinal k9_s12 k9_s12 "shown" "[I",
  .lays k9_s12 k9_s12 "mostOff" "I",
  .lays k9_s12 k9_s12 "sumOff" "I",
  .lays k9_s12 k9_s12 "whenOff" "I",
  .lays k9_s12 k9_s12 "standsLong" "I",
  .lays k9_s12 k9_s12 "standsFrom" "I",
  .laysFinal k9_s12 k9_s12 "best" "[I",
  .laysFinal k9_s12 k9_s12 "orders" "[I",
  .laysFinal k9_s12 k9_s12 "kept" "[I",
  .laysFinal k9_s12 k9_s12 "own" "[I",
  .initialized k9_s1,
  .initialized k9_s2,
  .initialized k9_s3,
  .initialized k9_s4,
  .initialized k9_s5,
  .initialized k9_s6,
  .initialized k9_s7,
  .initialized k9_s8,
  .initialized k9_s9,
  .initialized k9_s10,
  .initialized k9_s11,
  .initialized k9_s12,
  .static (k9_nm 0),
  .static (k9_nm 1),
  .static (k9_nm 2),
  .instanceMethod (k9_nm 3),
  .selects (k9_nm 3).cls (k9_nm 3) (k9_nm 3),
  .instanceMethod (k9_nm 4)]
def k9_B3 : List Cond := [
  .selects (k9_nm 4).cls (k9_nm 4) (k9_nm 4),
  .instanceMethod (k9_nm 5),
  .selects (k9_nm 5).cls (k9_nm 5) (k9_nm 5),
  .instanceMethod (k9_nm 6),
  .selects (k9_nm 6).cls (k9_nm 6) (k9_nm 6),
  .instanceMethod (k9_nm 7),
  .selects (k9_nm 7).cls (k9_nm 7) (k9_nm 7),
  .instanceMethod (k9_nm 8),
  .selects (k9_nm 8).cls (k9_nm 8) (k9_nm 8),
  .instanceMethod (k9_nm 9),
  .selects (k9_nm 9).cls (k9_nm 9) (k9_nm 9),
  .instanceMethod (k9_nm 10),
  .selects (k9_nm 10).cls (k9_nm 10) (k9_nm 10),
  .instanceMethod (k9_nm 11),
  .selects (k9_nm 11).cls (k9_nm 11) (k9_nm 11),
  .instanceMethod (k9_nm 12),
  .selects (k9_nm 12).cls (k9_nm 12) (k9_nm 12),
  .instanceMethod (k9_nm 13),
  .selects (k9_nm 13).cls (k9_nm 13) (k9_nm 13),
  .instanceMethod (k9_nm 14),
  .selects (k9_nm 14).cls (k9_nm 14) (k9_nm 14),
  .instanceMethod (k9_nm 15),
  .selects (k9_nm 15).cls (k9_nm 15) (k9_nm 15),
  .instanceMethod (k9_nm 16),
  .selects (k9_nm 16).cls (k9_nm 16) (k9_nm 16),
  .instanceMethod (k9_nm 17),
  .selects (k9_nm 17).cls (k9_nm 17) (k9_nm 17),
  .instanceMethod (k9_nm 18),
  .selects (k9_nm 18).cls (k9_nm 18) (k9_nm 18),
  .instanceMethod (k9_nm 19),
  .selects (k9_nm 19).cls (k9_nm 19) (k9_nm 19),
  .instanceMethod (k9_nm 20),
  .selects (k9_nm 20).cls (k9_nm 20) (k9_nm 20),
  .instanceMethod (k9_nm 21),
  .selects (k9_nm 21).cls (k9_nm 21) (k9_nm 21),
  .instanceMethod (k9_nm 22),
  .selects (k9_nm 22).cls (k9_nm 22) (k9_nm 22),
  .static (k9_nm 23),
  .static (k9_nm 24),
  .instanceMethod (k9_nm 25),
  .selects (k9_nm 25).cls (k9_nm 25) (k9_nm 25),
  .instanceMethod (k9_nm 26),
  .selects (k9_nm 26).cls (k9_nm 26) (k9_nm 26),
  .instanceMethod (k9_nm 27),
  .selects (k9_nm 27).cls (k9_nm 27) (k9_nm 27),
  .instanceMethod (k9_nm 28),
  .selects (k9_nm 28).cls (k9_nm 28) (k9_nm 28),
  .instanceMethod (k9_nm 29),
  .selects (k9_nm 29).cls (k9_nm 29) (k9_nm 29),
  .instanceMethod (k9_nm 30)]
def k9_B4 : List Cond := [
  .selects (k9_nm 30).cls (k9_nm 30) (k9_nm 30),
  .instanceMethod (k9_nm 31),
  .selects (k9_nm 31).cls (k9_nm 31) (k9_nm 31),
  .instanceMethod (k9_nm 32),
  .selects (k9_nm 32).cls (k9_nm 32) (k9_nm 32),
  .instanceMethod (k9_nm 33),
  .selects (k9_nm 33).cls (k9_nm 33) (k9_nm 33),
  .instanceMethod (k9_nm 34),
  .selects (k9_nm 34).cls (k9_nm 34) (k9_nm 34),
  .instanceMethod (k9_nm 35),
  .selects (k9_nm 35).cls (k9_nm 35) (k9_nm 35),
  .instanceMethod (k9_nm 36),
  .selects (k9_nm 36).cls (k9_nm 36) (k9_nm 36),
  .instanceMethod (k9_nm 37),
  .selects (k9_nm 37).cls (k9_nm 37) (k9_nm 37),
  .instanceMethod (k9_nm 38),
  .selects (k9_nm 38).cls (k9_nm 38) (k9_nm 38),
  .instanceMethod (k9_nm 39),
  .selects (k9_nm 39).cls (k9_nm 39) (k9_nm 39),
  .instanceMethod (k9_nm 40),
  .selects (k9_nm 40).cls (k9_nm 40) (k9_nm 40),
  .instanceMethod (k9_nm 41),
  .selects (k9_nm 41).cls (k9_nm 41) (k9_nm 41),
  .instanceMethod (k9_nm 42),
  .selects (k9_nm 42).cls (k9_nm 42) (k9_nm 42),
  .instanceMethod (k9_nm 43),
  .selects (k9_nm 43).cls (k9_nm 43) (k9_nm 43),
  .static (k9_nm 44),
  .static (k9_nm 45),
  .static (k9_nm 46),
  .instanceMethod (k9_nm 47),
  .selects (k9_nm 47).cls (k9_nm 47) (k9_nm 47),
  .instanceMethod (k9_nm 48),
  .selects (k9_nm 48).cls (k9_nm 48) (k9_nm 48),
  .instanceMethod (k9_nm 49),
  .selects (k9_nm 49).cls (k9_nm 49) (k9_nm 49),
  .static (k9_nm 50),
  .instanceMethod (k9_nm 51),
  .selects (k9_nm 51).cls (k9_nm 51) (k9_nm 51),
  .instanceMethod (k9_nm 52),
  .selects (k9_nm 52).cls (k9_nm 52) (k9_nm 52),
  .instanceMethod (k9_nm 53),
  .selects (k9_nm 53).cls (k9_nm 53) (k9_nm 53),
  .instanceMethod (k9_nm 54),
  .selects (k9_nm 54).cls (k9_nm 54) (k9_nm 54),
  .instanceMethod (k9_nm 55),
  .selects (k9_nm 55).cls (k9_nm 55) (k9_nm 55),
  .instanceMethod (k9_nm 56),
  .selects (k9_nm 56).cls (k9_nm 56) (k9_nm 56),
  .instanceMethod (k9_nm 57)]
def k9_B5 : List Cond := [
  .selects (k9_nm 57).cls (k9_nm 57) (k9_nm 57),
  .instanceMethod (k9_nm 58),
  .selects (k9_nm 58).cls (k9_nm 58) (k9_nm 58),
  .instanceMethod (k9_nm 59),
  .selects (k9_nm 59).cls (k9_nm 59) (k9_nm 59),
  .instanceMethod (k9_nm 60),
  .selects (k9_nm 60).cls (k9_nm 60) (k9_nm 60),
  .instanceMethod (k9_nm 61),
  .selects (k9_nm 61).cls (k9_nm 61) (k9_nm 61),
  .instanceMethod (k9_nm 62),
  .selects (k9_nm 62).cls (k9_nm 62) (k9_nm 62),
  .instanceMethod (k9_nm 63),
  .selects (k9_nm 63).cls (k9_nm 63) (k9_nm 63),
  .instanceMethod (k9_nm 64),
  .selects (k9_nm 64).cls (k9_nm 64) (k9_nm 64),
  .instanceMethod (k9_nm 65),
  .selects (k9_nm 65).cls (k9_nm 65) (k9_nm 65),
  .instanceMethod (k9_nm 66),
  .selects (k9_nm 66).cls (k9_nm 66) (k9_nm 66),
  .instanceMethod (k9_nm 67),
  .selects (k9_nm 67).cls (k9_nm 67) (k9_nm 67),
  .instanceMethod (k9_nm 68),
  .selects (k9_nm 68).cls (k9_nm 68) (k9_nm 68),
  .instanceMethod (k9_nm 69),
  .selects (k9_nm 69).cls (k9_nm 69) (k9_nm 69),
  .instanceMethod (k9_nm 70),
  .selects (k9_nm 70).cls (k9_nm 70) (k9_nm 70),
  .instanceMethod (k9_nm 71),
  .selects (k9_nm 71).cls (k9_nm 71) (k9_nm 71),
  .instanceMethod (k9_nm 72),
  .selects (k9_nm 72).cls (k9_nm 72) (k9_nm 72),
  .instanceMethod (k9_nm 73),
  .selects (k9_nm 73).cls (k9_nm 73) (k9_nm 73),
  .instanceMethod (k9_nm 74),
  .selects (k9_nm 74).cls (k9_nm 74) (k9_nm 74),
  .instanceMethod (k9_nm 75),
  .selects (k9_nm 75).cls (k9_nm 75) (k9_nm 75),
  .instanceMethod (k9_nm 76),
  .selects (k9_nm 76).cls (k9_nm 76) (k9_nm 76),
  .instanceMethod (k9_nm 77),
  .selects (k9_nm 77).cls (k9_nm 77) (k9_nm 77),
  .instanceMethod (k9_nm 78),
  .selects (k9_nm 78).cls (k9_nm 78) (k9_nm 78),
  .static (k9_nm 79),
  .static (k9_nm 80),
  .instanceMethod (k9_nm 81),
  .selects (k9_nm 81).cls (k9_nm 81) (k9_nm 81),
  .instanceMethod (k9_nm 82),
  .selects (k9_nm 82).cls (k9_nm 82) (k9_nm 82),
  .instanceMethod (k9_nm 83)]
def k9_B6 : List Cond := [
  .selects (k9_nm 83).cls (k9_nm 83) (k9_nm 83),
  .instanceMethod (k9_nm 84),
  .selects (k9_nm 84).cls (k9_nm 84) (k9_nm 84),
  .instanceMethod (k9_nm 85),
  .selects (k9_nm 85).cls (k9_nm 85) (k9_nm 85),
  .static (k9_nm 86),
  .instanceMethod (k9_nm 87),
  .selects (k9_nm 87).cls (k9_nm 87) (k9_nm 87),
  .instanceMethod (k9_nm 88),
  .selects (k9_nm 88).cls (k9_nm 88) (k9_nm 88),
  .instanceMethod (k9_nm 89),
  .selects (k9_nm 89).cls (k9_nm 89) (k9_nm 89),
  .instanceMethod (k9_nm 90),
  .selects (k9_nm 90).cls (k9_nm 90) (k9_nm 90),
  .instanceMethod (k9_nm 91),
  .selects (k9_nm 91).cls (k9_nm 91) (k9_nm 91),
  .instanceMethod (k9_nm 92),
  .selects (k9_nm 92).cls (k9_nm 92) (k9_nm 92),
  .instanceMethod (k9_nm 93),
  .selects (k9_nm 93).cls (k9_nm 93) (k9_nm 93),
  .instanceMethod (k9_nm 94),
  .selects (k9_nm 94).cls (k9_nm 94) (k9_nm 94),
  .instanceMethod (k9_nm 95),
  .selects (k9_nm 95).cls (k9_nm 95) (k9_nm 95),
  .instanceMethod (k9_nm 96),
  .selects (k9_nm 96).cls (k9_nm 96) (k9_nm 96),
  .instanceMethod (k9_nm 97),
  .selects (k9_nm 97).cls (k9_nm 97) (k9_nm 97),
  .instanceMethod (k9_nm 98),
  .selects (k9_nm 98).cls (k9_nm 98) (k9_nm 98),
  .instanceMethod (k9_nm 99),
  .selects (k9_nm 99).cls (k9_nm 99) (k9_nm 99),
  .instanceMethod (k9_nm 100),
  .selects (k9_nm 100).cls (k9_nm 100) (k9_nm 100),
  .instanceMethod (k9_nm 101),
  .selects (k9_nm 101).cls (k9_nm 101) (k9_nm 101),
  .instanceMethod (k9_nm 102),
  .selects (k9_nm 102).cls (k9_nm 102) (k9_nm 102),
  .instanceMethod (k9_nm 103),
  .selects (k9_nm 103).cls (k9_nm 103) (k9_nm 103),
  .instanceMethod (k9_nm 104),
  .selects (k9_nm 104).cls (k9_nm 104) (k9_nm 104),
  .instanceMethod (k9_nm 105),
  .selects (k9_nm 105).cls (k9_nm 105) (k9_nm 105),
  .instanceMethod (k9_nm 106),
  .selects (k9_nm 106).cls (k9_nm 106) (k9_nm 106),
  .instanceMethod (k9_nm 107),
  .selects (k9_nm 107).cls (k9_nm 107) (k9_nm 107),
  .instanceMethod (k9_nm 108),
  .selects (k9_nm 108).cls (k9_nm 108) (k9_nm 108)]
def k9_B7 : List Cond := [
  .instanceMethod (k9_nm 109),
  .selects (k9_nm 109).cls (k9_nm 109) (k9_nm 109),
  .instanceMethod (k9_nm 110),
  .selects (k9_nm 110).cls (k9_nm 110) (k9_nm 110),
  .instanceMethod (k9_nm 111),
  .selects (k9_nm 111).cls (k9_nm 111) (k9_nm 111),
  .instanceMethod (k9_nm 112),
  .selects (k9_nm 112).cls (k9_nm 112) (k9_nm 112),
  .instanceMethod (k9_nm 113),
  .selects (k9_nm 113).cls (k9_nm 113) (k9_nm 113),
  .instanceMethod (k9_nm 114),
  .selects (k9_nm 114).cls (k9_nm 114) (k9_nm 114),
  .instanceMethod (k9_nm 115),
  .selects (k9_nm 115).cls (k9_nm 115) (k9_nm 115),
  .instanceMethod (k9_nm 116),
  .selects (k9_nm 116).cls (k9_nm 116) (k9_nm 116),
  .instanceMethod (k9_nm 117),
  .selects (k9_nm 117).cls (k9_nm 117) (k9_nm 117),
  .instanceMethod (k9_nm 118),
  .selects (k9_nm 118).cls (k9_nm 118) (k9_nm 118),
  .instanceMethod (k9_nm 119),
  .selects (k9_nm 119).cls (k9_nm 119) (k9_nm 119),
  .instanceMethod (k9_nm 120),
  .selects (k9_nm 120).cls (k9_nm 120) (k9_nm 120),
  .instanceMethod (k9_nm 121),
  .selects (k9_nm 121).cls (k9_nm 121) (k9_nm 121),
  .instanceMethod (k9_nm 122),
  .selects (k9_nm 122).cls (k9_nm 122) (k9_nm 122),
  .instanceMethod (k9_nm 123),
  .selects (k9_nm 123).cls (k9_nm 123) (k9_nm 123),
  .instanceMethod (k9_nm 124),
  .selects (k9_nm 124).cls (k9_nm 124) (k9_nm 124),
  .instanceMethod (k9_nm 125),
  .selects (k9_nm 125).cls (k9_nm 125) (k9_nm 125),
  .instanceMethod (k9_nm 126),
  .selects (k9_nm 126).cls (k9_nm 126) (k9_nm 126),
  .instanceMethod (k9_nm 127),
  .selects (k9_nm 127).cls (k9_nm 127) (k9_nm 127),
  .instanceMethod (k9_nm 128),
  .selects (k9_nm 128).cls (k9_nm 128) (k9_nm 128),
  .instanceMethod (k9_nm 129),
  .selects (k9_nm 129).cls (k9_nm 129) (k9_nm 129),
  .instanceMethod (k9_nm 130),
  .selects (k9_nm 130).cls (k9_nm 130) (k9_nm 130),
  .instanceMethod (k9_nm 131),
  .selects (k9_nm 131).cls (k9_nm 131) (k9_nm 131),
  .instanceMethod (k9_nm 132),
  .selects (k9_nm 132).cls (k9_nm 132) (k9_nm 132),
  .instanceMethod (k9_nm 133),
  .selects (k9_nm 133).cls (k9_nm 133) (k9_nm 133)]
def k9_B8 : List Cond := [
  .instanceMethod (k9_nm 134),
  .selects (k9_nm 134).cls (k9_nm 134) (k9_nm 134),
  .instanceMethod (k9_nm 135),
  .selects (k9_nm 135).cls (k9_nm 135) (k9_nm 135),
  .instanceMethod (k9_nm 136),
  .selects (k9_nm 136).cls (k9_nm 136) (k9_nm 136),
  .instanceMethod (k9_nm 137),
  .selects (k9_nm 137).cls (k9_nm 137) (k9_nm 137),
  .instanceMethod (k9_nm 138),
  .selects (k9_nm 138).cls (k9_nm 138) (k9_nm 138),
  .instanceMethod (k9_nm 139),
  .selects (k9_nm 139).cls (k9_nm 139) (k9_nm 139),
  .instanceMethod (k9_nm 140),
  .selects (k9_nm 140).cls (k9_nm 140) (k9_nm 140),
  .instanceMethod (k9_nm 141),
  .selects (k9_nm 141).cls (k9_nm 141) (k9_nm 141),
  .instanceMethod (k9_nm 142),
  .selects (k9_nm 142).cls (k9_nm 142) (k9_nm 142),
  .instanceMethod (k9_nm 143),
  .selects (k9_nm 143).cls (k9_nm 143) (k9_nm 143),
  .instanceMethod (k9_nm 144),
  .selects (k9_nm 144).cls (k9_nm 144) (k9_nm 144),
  .static (k9_nm 145),
  .instanceMethod (k9_nm 146),
  .selects (k9_nm 146).cls (k9_nm 146) (k9_nm 146),
  .instanceMethod (k9_nm 147),
  .selects (k9_nm 147).cls (k9_nm 147) (k9_nm 147),
  .instanceMethod (k9_nm 148),
  .selects (k9_nm 148).cls (k9_nm 148) (k9_nm 148),
  .instanceMethod (k9_nm 149),
  .selects (k9_nm 149).cls (k9_nm 149) (k9_nm 149),
  .instanceMethod (k9_nm 150),
  .selects (k9_nm 150).cls (k9_nm 150) (k9_nm 150),
  .instanceMethod (k9_nm 151),
  .selects (k9_nm 151).cls (k9_nm 151) (k9_nm 151),
  .instanceMethod (k9_nm 152),
  .selects (k9_nm 152).cls (k9_nm 152) (k9_nm 152),
  .static (k9_nm 153),
  .instanceMethod (k9_nm 154),
  .selects (k9_nm 154).cls (k9_nm 154) (k9_nm 154),
  .static (k9_nm 155),
  .static (k9_nm 156),
  .instanceMethod (k9_nm 157),
  .selects (k9_nm 157).cls (k9_nm 157) (k9_nm 157),
  .instanceMethod (k9_nm 158),
  .selects (k9_nm 158).cls (k9_nm 158) (k9_nm 158),
  .instanceMethod (k9_nm 159),
  .selects (k9_nm 159).cls (k9_nm 159) (k9_nm 159),
  .instanceMethod (k9_nm 160),
  .selects (k9_nm 160).cls (k9_nm 160) (k9_nm 160)]
def k9_B9 : List Cond := [
  .static (k9_nm 161),
  .instanceMethod (k9_nm 162),
  .selects (k9_nm 162).cls (k9_nm 162) (k9_nm 162),
  .instanceMethod (k9_nm 163),
  .selects (k9_nm 163).cls (k9_nm 163) (k9_nm 163),
  .instanceMethod (k9_nm 164),
  .selects (k9_nm 164).cls (k9_nm 164) (k9_nm 164),
  .instanceMethod (k9_nm 165),
  .selects (k9_nm 165).cls (k9_nm 165) (k9_nm 165),
  .instanceMethod (k9_nm 166),
  .selects (k9_nm 166).cls (k9_nm 166) (k9_nm 166),
  .instanceMethod (k9_nm 167),
  .selects (k9_nm 167).cls (k9_nm 167) (k9_nm 167),
  .instanceMethod (k9_nm 168),
  .selects (k9_nm 168).cls (k9_nm 168) (k9_nm 168),
  .instanceMethod (k9_nm 169),
  .selects (k9_nm 169).cls (k9_nm 169) (k9_nm 169),
  .instanceMethod (k9_nm 170),
  .selects (k9_nm 170).cls (k9_nm 170) (k9_nm 170),
  .instanceMethod (k9_nm 171),
  .selects (k9_nm 171).cls (k9_nm 171) (k9_nm 171),
  .instanceMethod (k9_nm 172),
  .selects (k9_nm 172).cls (k9_nm 172) (k9_nm 172),
  .static (k9_nm 173),
  .instanceMethod (k9_nm 174),
  .selects (k9_nm 174).cls (k9_nm 174) (k9_nm 174),
  .instanceMethod (k9_nm 175),
  .selects (k9_nm 175).cls (k9_nm 175) (k9_nm 175),
  .instanceMethod (k9_nm 176),
  .selects (k9_nm 176).cls (k9_nm 176) (k9_nm 176),
  .instanceMethod (k9_nm 177),
  .selects (k9_nm 177).cls (k9_nm 177) (k9_nm 177),
  .instanceMethod (k9_nm 178),
  .selects (k9_nm 178).cls (k9_nm 178) (k9_nm 178),
  .instanceMethod (k9_nm 179),
  .selects (k9_nm 179).cls (k9_nm 179) (k9_nm 179),
  .instanceMethod (k9_nm 180),
  .selects (k9_nm 180).cls (k9_nm 180) (k9_nm 180),
  .instanceMethod (k9_nm 181),
  .selects (k9_nm 181).cls (k9_nm 181) (k9_nm 181),
  .static (k9_nm 182),
  .instanceMethod (k9_nm 183),
  .selects (k9_nm 183).cls (k9_nm 183) (k9_nm 183),
  .instanceMethod (k9_nm 184),
  .selects (k9_nm 184).cls (k9_nm 184) (k9_nm 184),
  .instanceMethod (k9_nm 185),
  .selects (k9_nm 185).cls (k9_nm 185) (k9_nm 185),
  .static (k9_nm 186),
  .instanceMethod (k9_nm 187),
  .selects (k9_nm 187).cls (k9_nm 187) (k9_nm 187)]
def k9_B10 : List Cond := [
  .instanceMethod (k9_nm 188),
  .selects (k9_nm 188).cls (k9_nm 188) (k9_nm 188),
  .instanceMethod (k9_nm 189),
  .selects (k9_nm 189).cls (k9_nm 189) (k9_nm 189),
  .instanceMethod (k9_nm 190),
  .selects (k9_nm 190).cls (k9_nm 190) (k9_nm 190),
  .instanceMethod (k9_nm 191),
  .selects (k9_nm 191).cls (k9_nm 191) (k9_nm 191),
  .instanceMethod (k9_nm 192),
  .selects (k9_nm 192).cls (k9_nm 192) (k9_nm 192),
  .instanceMethod (k9_nm 193),
  .selects (k9_nm 193).cls (k9_nm 193) (k9_nm 193),
  .instanceMethod (k9_nm 194),
  .selects (k9_nm 194).cls (k9_nm 194) (k9_nm 194),
  .instanceMethod (k9_nm 195),
  .selects (k9_nm 195).cls (k9_nm 195) (k9_nm 195),
  .instanceMethod (k9_nm 196),
  .selects (k9_nm 196).cls (k9_nm 196) (k9_nm 196),
  .instanceMethod (k9_nm 197),
  .selects (k9_nm 197).cls (k9_nm 197) (k9_nm 197),
  .instanceMethod (k9_nm 198),
  .selects (k9_nm 198).cls (k9_nm 198) (k9_nm 198),
  .instanceMethod (k9_nm 199),
  .selects (k9_nm 199).cls (k9_nm 199) (k9_nm 199),
  .instanceMethod (k9_nm 200),
  .selects (k9_nm 200).cls (k9_nm 200) (k9_nm 200),
  .instanceMethod (k9_nm 201),
  .selects (k9_nm 201).cls (k9_nm 201) (k9_nm 201),
  .instanceMethod (k9_nm 202),
  .selects (k9_nm 202).cls (k9_nm 202) (k9_nm 202),
  .instanceMethod (k9_nm 203),
  .selects (k9_nm 203).cls (k9_nm 203) (k9_nm 203),
  .instanceMethod (k9_nm 204),
  .selects (k9_nm 204).cls (k9_nm 204) (k9_nm 204),
  .instanceMethod (k9_nm 205),
  .selects (k9_nm 205).cls (k9_nm 205) (k9_nm 205),
  .instanceMethod (k9_nm 206),
  .selects (k9_nm 206).cls (k9_nm 206) (k9_nm 206),
  .instanceMethod (k9_nm 207),
  .selects (k9_nm 207).cls (k9_nm 207) (k9_nm 207),
  .instanceMethod (k9_nm 208),
  .selects (k9_nm 208).cls (k9_nm 208) (k9_nm 208),
  .instanceMethod (k9_nm 209),
  .selects (k9_nm 209).cls (k9_nm 209) (k9_nm 209),
  .instanceMethod (k9_nm 210),
  .selects (k9_nm 210).cls (k9_nm 210) (k9_nm 210),
  .instanceMethod (k9_nm 211),
  .selects (k9_nm 211).cls (k9_nm 211) (k9_nm 211),
  .instanceMethod (k9_nm 212),
  .selects (k9_nm 212).cls (k9_nm 212) (k9_nm 212)]
def k9_B11 : List Cond := [
  .instanceMethod (k9_nm 213),
  .selects (k9_nm 213).cls (k9_nm 213) (k9_nm 213),
  .instanceMethod (k9_nm 214),
  .selects (k9_nm 214).cls (k9_nm 214) (k9_nm 214),
  .instanceMethod (k9_nm 215),
  .selects (k9_nm 215).cls (k9_nm 215) (k9_nm 215),
  .instanceMethod (k9_nm 216),
  .selects (k9_nm 216).cls (k9_nm 216) (k9_nm 216),
  .instanceMethod (k9_nm 217),
  .selects (k9_nm 217).cls (k9_nm 217) (k9_nm 217),
  .instanceMethod (k9_nm 218),
  .selects (k9_nm 218).cls (k9_nm 218) (k9_nm 218),
  .instanceMethod (k9_nm 219),
  .selects (k9_nm 219).cls (k9_nm 219) (k9_nm 219),
  .instanceMethod (k9_nm 220),
  .selects (k9_nm 220).cls (k9_nm 220) (k9_nm 220),
  .instanceMethod (k9_nm 221),
  .selects (k9_nm 221).cls (k9_nm 221) (k9_nm 221),
  .instanceMethod (k9_nm 222),
  .selects (k9_nm 222).cls (k9_nm 222) (k9_nm 222),
  .instanceMethod (k9_nm 223),
  .selects (k9_nm 223).cls (k9_nm 223) (k9_nm 223),
  .instanceMethod (k9_nm 224),
  .selects (k9_nm 224).cls (k9_nm 224) (k9_nm 224),
  .instanceMethod (k9_nm 225),
  .selects (k9_nm 225).cls (k9_nm 225) (k9_nm 225),
  .instanceMethod (k9_nm 226),
  .selects (k9_nm 226).cls (k9_nm 226) (k9_nm 226),
  .instanceMethod (k9_nm 227),
  .selects (k9_nm 227).cls (k9_nm 227) (k9_nm 227),
  .instanceMethod (k9_nm 228),
  .selects (k9_nm 228).cls (k9_nm 228) (k9_nm 228),
  .static (k9_nm 229),
  .instanceMethod (k9_nm 230),
  .selects (k9_nm 230).cls (k9_nm 230) (k9_nm 230),
  .instanceMethod (k9_nm 231),
  .selects (k9_nm 231).cls (k9_nm 231) (k9_nm 231),
  .instanceMethod (k9_nm 232),
  .selects (k9_nm 232).cls (k9_nm 232) (k9_nm 232),
  .instanceMethod (k9_nm 233),
  .selects (k9_nm 233).cls (k9_nm 233) (k9_nm 233),
  .instanceMethod (k9_nm 234),
  .selects (k9_nm 234).cls (k9_nm 234) (k9_nm 234),
  .instanceMethod (k9_nm 235),
  .selects (k9_nm 235).cls (k9_nm 235) (k9_nm 235),
  .instanceMethod (k9_nm 236),
  .selects (k9_nm 236).cls (k9_nm 236) (k9_nm 236),
  .instanceMethod (k9_nm 237),
  .selects (k9_nm 237).cls (k9_nm 237) (k9_nm 237),
  .instanceMethod (k9_nm 238)]
def k9_B12 : List Cond := [
  .selects (k9_nm 238).cls (k9_nm 238) (k9_nm 238),
  .instanceMethod (k9_nm 239),
  .selects (k9_nm 239).cls (k9_nm 239) (k9_nm 239),
  .instanceMethod (k9_nm 240),
  .selects (k9_nm 240).cls (k9_nm 240) (k9_nm 240),
  .static (k9_nm 241),
  .instanceMethod (k9_nm 242),
  .selects (k9_nm 242).cls (k9_nm 242) (k9_nm 242),
  .instanceMethod (k9_nm 243),
  .selects (k9_nm 243).cls (k9_nm 243) (k9_nm 243),
  .instanceMethod (k9_nm 244),
  .selects (k9_nm 244).cls (k9_nm 244) (k9_nm 244),
  .instanceMethod (k9_nm 245),
  .selects (k9_nm 245).cls (k9_nm 245) (k9_nm 245),
  .instanceMethod (k9_nm 246),
  .selects (k9_nm 246).cls (k9_nm 246) (k9_nm 246),
  .initialized "java/lang/Math",
  .static Lib.Math.max.name,
  .code Lib.Math.max.name Lib.Math.max.code 2 (some .int),
  .static Lib.Math.min.name,
  .code Lib.Math.min.name Lib.Math.min.code 2 (some .int),
  .static Lib.Math.abs.name,
  .code Lib.Math.abs.name Lib.Math.abs.code 1 (some .int),
  .methodLink k9_s3 28 (k9_nm 1),
  .methodLink k9_s3 32 (k9_nm 2),
  .fieldLink k9_s3 35 k9_s3 "LEAST" "[I",
  .fieldLink k9_s3 38 k9_s3 "MOST" "[I",
  .fieldLink k9_s3 41 k9_s3 "count" "I",
  .methodLink k9_s3 44 (k9_nm 3),
  .fieldLink k9_s3 15 k9_s3 "bytes" "[I",
  .fieldLink k9_s3 19 k9_s3 "speed" "[I",
  .fieldLink k9_s3 22 k9_s3 "stuck" "[I",
  .fieldLink k9_s3 25 k9_s3 "files" "[I",
  .fieldLink k9_s3 9 k9_s3 "measure" "I",
  .fieldLink k9_s3 48 k9_s3 "smooth" "I",
  .fieldLink k9_s3 51 k9_s3 "neve\x72" "I",
  .methodLink k9_s3 54 (k9_nm 7),
  .methodLink k9_s3 58 (k9_nm 9),
  .methodLink k9_s3 61 Lib.Math.min.name,
  .methodLink k9_s3 67 (k9_nm 17),
  .methodLink k9_s3 71 (k9_nm 18),
  .methodLink k9_s3 75 (k9_nm 25),
  .constant k9_s3 80 1103515245,
  .methodLink k9_s3 81 Lib.Math.max.name,
  .fieldLink k9_s4 9 k9_s3 "count" "I",
  .fieldLink k9_s4 15 k9_s4 "pieces" "I",
  .fieldLink k9_s4 20 k9_s4 "done" "I",
  .fieldLink k9_s4 23 k9_s4 "begin" "I",
  .methodLink k9_s4 26 (k9_nm 9),
  .fieldLink k9_s4 30 k9_s4 "end" "I"]
def k9_B13 : List Cond := [
  .fieldLink k9_s4 33 k9_s4 "bytesDone" "I",
  .fieldLink k9_s4 36 k9_s4 "filesDone" "I",
  .methodLink k9_s4 39 (k9_nm 11),
  .fieldLink k9_s4 43 k9_s4 "allBytes" "I",
  .methodLink k9_s4 45 (k9_nm 12),
  .fieldLink k9_s4 48 k9_s4 "allFiles" "I",
  .methodLink k9_s4 50 (k9_nm 10),
  .fieldLink k9_s4 53 k9_s4 "length" "I",
  .methodLink k9_s4 55 (k9_nm 5),
  .methodLink k9_s4 59 (k9_nm 13),
  .fieldLink k9_s4 62 k9_s4 "come" "I",
  .methodLink k9_s4 65 (k9_nm 24),
  .fieldLink k9_s4 68 k9_s4 "filesCent" "I",
  .fieldLink k9_s4 71 k9_s4 "bytesCent" "I",
  .fieldLink k9_s4 74 k9_s4 "stepsCent" "I",
  .methodLink k9_s4 77 (k9_nm 23),
  .fieldLink k9_s4 80 k9_s4 "timeCent" "I",
  .fieldLink k9_s7 15 k9_s7 "count" "I",
  .fieldLink k9_s7 9 k9_s7 "row" "[I",
  .methodLink k9_s7 19 (k9_nm 29),
  .methodLink k9_s7 23 (k9_nm 28),
  .methodLink k9_s7 27 Lib.Math.min.name,
  .methodLink k9_s7 33 (k9_nm 33),
  .fieldLink k9_s5 16 k9_s5 "count" "I",
  .fieldLink k9_s5 9 k9_s5 "letters" "[I",
  .fieldLink k9_s5 20 k9_s5 "size" "I",
  .fieldLink k9_s5 13 k9_s5 "code" "[I",
  .fieldLink k9_s5 23 k9_s5 "place" "I",
  .methodLink k9_s5 26 (k9_nm 37),
  .methodLink k9_s5 30 (k9_nm 42),
  .methodLink k9_s5 34 (k9_nm 38),
  .methodLink k9_s5 38 (k9_nm 43),
  .methodLink k9_s5 42 (k9_nm 39),
  .methodLink k9_s5 45 (k9_nm 41),
  .methodLink k9_s5 49 (k9_nm 46),
  .methodLink k9_s5 52 (k9_nm 44),
  .methodLink k9_s5 55 (k9_nm 40),
  .methodLink k9_s5 58 (k9_nm 45),
  .fieldLink k9_s6 18 k9_s6 "hasText" "Z",
  .fieldLink k9_s6 22 k9_s6 "looksBack" "Z",
  .fieldLink k9_s6 25 k9_s5 "size" "I",
  .methodLink k9_s6 29 Lib.Math.min.name,
  .fieldLink k9_s6 35 k9_s6 "size" "I",
  .fieldLink k9_s6 9 k9_s6 "code" "[I",
  .methodLink k9_s6 36 (k9_nm 35),
  .fieldLink k9_s6 40 k9_s4 "bytesCent" "I",
  .fieldLink k9_s6 45 k9_s6 "top" "I",
  .methodLink k9_s6 48 (k9_nm 52),
  .methodLink k9_s6 52 (k9_nm 49),
  .methodLink k9_s6 56 (k9_nm 51)]
def k9_B14 : List Cond := [
  .fieldLink k9_s6 60 k9_s4 "filesCent" "I",
  .fieldLink k9_s6 63 k9_s4 "stepsCent" "I",
  .fieldLink k9_s6 66 k9_s4 "timeCent" "I",
  .fieldLink k9_s6 69 k9_s4 "pieces" "I",
  .methodLink k9_s6 72 (k9_nm 50),
  .fieldLink k9_s6 15 k9_s6 "stack" "[I",
  .fieldLink k9_s2 12 k9_s2 "work" "LNinetyNine$Work;",
  .fieldLink k9_s2 32 k9_s3 "neve\x72" "I",
  .fieldLink k9_s2 36 k9_s3 "smooth" "I",
  .fieldLink k9_s2 39 k9_s3 "measure" "I",
  .fieldLink k9_s2 42 k9_s6 "looksBack" "Z",
  .methodLink k9_s2 48 (k9_nm 10),
  .fieldLink k9_s2 52 k9_s2 "length" "I",
  .methodLink k9_s2 54 (k9_nm 11),
  .fieldLink k9_s2 57 k9_s2 "allBytes" "I",
  .fieldLink k9_s2 21 k9_s2 "walk" "LNinetyNine$Walk;",
  .methodLink k9_s2 59 (k9_nm 20),
  .methodLink k9_s2 63 Lib.Math.max.name,
  .methodLink k9_s2 69 (k9_nm 21),
  .methodLink k9_s2 73 (k9_nm 48),
  .methodLink k9_s2 77 (k9_nm 22),
  .methodLink k9_s2 81 (k9_nm 55),
  .fieldLink k9_s2 25 k9_s2 "come" "[I",
  .fieldLink k9_s2 84 k9_s4 "come" "I",
  .fieldLink k9_s2 29 k9_s2 "shown" "[I",
  .methodLink k9_s2 86 (k9_nm 56),
  .methodLink k9_s2 89 (k9_nm 23),
  .methodLink k9_s2 92 Lib.Math.abs.name,
  .methodLink k9_s2 95 Lib.Math.min.name,
  .methodLink k9_s2 98 (k9_nm 57),
  .methodLink k9_s2 101 (k9_nm 62),
  .fieldLink k9_s2 104 k9_s11 "size" "I",
  .methodLink k9_s2 109 (k9_nm 95),
  .fieldLink k9_s8 22 k9_s8 "done" "I",
  .methodLink k9_s8 26 (k9_nm 68),
  .fieldLink k9_s8 9 k9_s8 "numbe\x72" "[I",
  .fieldLink k9_s8 13 k9_s8 "what" "[I",
  .fieldLink k9_s8 16 k9_s8 "before" "[I",
  .fieldLink k9_s8 19 k9_s8 "behind" "[I",
  .fieldLink k9_s8 29 k9_s8 "undone" "I",
  .methodLink k9_s8 32 (k9_nm 6),
  .fieldLink k9_s9 9 k9_s9 "on" "Z",
  .fieldLink k9_s9 15 k9_s9 "second" "I",
  .fieldLink k9_s9 19 k9_s9 "begun" "I",
  .methodLink k9_s9 22 Lib.Math.min.name,
  .fieldLink k9_s9 28 k9_s9 "passed" "I",
  .fieldLink k9_s9 31 k9_s9 "ended" "I",
  .fieldLink k9_s9 34 k9_s9 "cancelled" "I",
  .fieldLink k9_s9 37 k9_s9 "lost" "I",
  .fieldLink k9_s10 16 k9_s10 "count" "I"]
def k9_B15 : List Cond := [
  .fieldLink k9_s10 9 k9_s10 "kinds" "[I",
  .methodLink k9_s10 20 (k9_nm 80),
  .fieldLink k9_s10 24 k9_s10 "ABOVE" "[I",
  .fieldLink k9_s10 27 k9_s10 "ran" "I",
  .methodLink k9_s10 30 Lib.Math.min.name,
  .fieldLink k9_s10 13 k9_s10 "trace" "[I",
  .methodLink k9_s10 36 (k9_nm 78),
  .fieldLink k9_s10 39 k9_s10 "self" "I",
  .methodLink k9_s10 42 (k9_nm 84),
  .methodLink k9_s10 46 (k9_nm 85),
  .methodLink k9_s10 50 (k9_nm 86),
  .methodLink k9_s10 53 (k9_nm 87),
  .methodLink k9_s10 57 (k9_nm 88),
  .fieldLink k9_s10 60 k9_s10 "BODY_OF" "[I",
  .fieldLink k9_s11 15 k9_s11 "holds" "I",
  .fieldLink k9_s11 19 k9_s11 "body" "I",
  .fieldLink k9_s11 22 k9_s11 "sort" "I",
  .fieldLink k9_s11 25 k9_s11 "size" "I",
  .fieldLink k9_s11 11 k9_s11 "cells" "[J",
  .methodLink k9_s11 28 (k9_nm 94),
  .methodLink k9_s11 32 (k9_nm 97),
  .methodLink k9_s11 36 (k9_nm 96),
  .methodLink k9_s1 74 (k9_nm 0),
  .fieldLink k9_s1 10 k9_s1 "ba\x72" "LNinetyNine$Bar;",
  .fieldLink k9_s1 80 k9_s2 "work" "LNinetyNine$Work;",
  .fieldLink k9_s1 84 k9_s3 "count" "I",
  .methodLink k9_s1 88 (k9_nm 8),
  .methodLink k9_s1 92 (k9_nm 147),
  .methodLink k9_s1 95 (k9_nm 144),
  .fieldLink k9_s1 99 k9_s11 "holds" "I",
  .methodLink k9_s1 102 (k9_nm 91),
  .methodLink k9_s1 106 (k9_nm 146),
  .methodLink k9_s1 110 (k9_nm 4),
  .methodLink k9_s1 113 (k9_nm 5),
  .methodLink k9_s1 117 (k9_nm 6),
  .fieldLink k9_s1 46 k9_s1 "changes" "LNinetyNine$Changes;",
  .methodLink k9_s1 120 (k9_nm 67),
  .methodLink k9_s1 123 (k9_nm 9),
  .methodLink k9_s1 127 (k9_nm 10),
  .fieldLink k9_s1 22 k9_s1 "tape" "LNinetyNine$Tape;",
  .methodLink k9_s1 131 (k9_nm 34),
  .fieldLink k9_s1 134 k9_s5 "count" "I",
  .methodLink k9_s1 135 (k9_nm 36),
  .fieldLink k9_s1 29 k9_s1 "law" "LNinetyNine$Law;",
  .methodLink k9_s1 138 (k9_nm 47),
  .methodLink k9_s1 142 (k9_nm 145),
  .methodLink k9_s1 145 (k9_nm 148),
  .methodLink k9_s1 149 (k9_nm 56),
  .methodLink k9_s1 152 (k9_nm 57),
  .methodLink k9_s1 155 (k9_nm 58)]
def k9_B16 : List Cond := [
  .methodLink k9_s1 158 (k9_nm 59),
  .methodLink k9_s1 161 (k9_nm 60),
  .methodLink k9_s1 164 (k9_nm 61),
  .methodLink k9_s1 167 (k9_nm 62),
  .methodLink k9_s1 170 (k9_nm 63),
  .methodLink k9_s1 173 (k9_nm 64),
  .methodLink k9_s1 176 Lib.Math.max.name,
  .methodLink k9_s1 181 (k9_nm 150),
  .fieldLink k9_s1 184 k9_s1 "evenestOff" "I",
  .fieldLink k9_s1 40 k9_s1 "evenest" "LNinetyNine$Order;",
  .methodLink k9_s1 187 (k9_nm 25),
  .methodLink k9_s1 190 (k9_nm 92),
  .fieldLink k9_s1 36 k9_s1 "tried" "LNinetyNine$Order;",
  .methodLink k9_s1 193 (k9_nm 26),
  .fieldLink k9_s1 196 k9_s11 "size" "I",
  .methodLink k9_s1 199 (k9_nm 95),
  .methodLink k9_s1 202 (k9_nm 28),
  .methodLink k9_s1 205 (k9_nm 30),
  .methodLink k9_s1 209 (k9_nm 149),
  .methodLink k9_s1 213 (k9_nm 14),
  .methodLink k9_s1 216 (k9_nm 31),
  .fieldLink k9_s1 16 k9_s1 "trial" "LNinetyNine$Bar;",
  .methodLink k9_s1 219 (k9_nm 15),
  .fieldLink k9_s1 223 k9_s3 "measure" "I",
  .methodLink k9_s1 226 (k9_nm 54),
  .constant k9_s1 230 (-2000000000),
  .methodLink k9_s1 231 (k9_nm 65),
  .fieldLink k9_s1 234 k9_s3 "smooth" "I",
  .methodLink k9_s1 237 Lib.Math.min.name,
  .methodLink k9_s1 240 (k9_nm 66),
  .methodLink k9_s1 244 (k9_nm 151),
  .methodLink k9_s1 247 (k9_nm 152),
  .methodLink k9_s1 251 (k9_nm 19),
  .fieldLink k9_s1 53 k9_s1 "waits" "LNinetyNine$Waits;",
  .fieldLink k9_s1 254 k9_s9 "on" "Z",
  .methodLink k9_s1 258 (k9_nm 71),
  .methodLink k9_s1 261 (k9_nm 72),
  .fieldLink k9_s1 264 k9_s9 "second" "I",
  .methodLink k9_s1 267 (k9_nm 73),
  .methodLink k9_s1 270 (k9_nm 74),
  .methodLink k9_s1 273 (k9_nm 75),
  .fieldLink k9_s1 57 k9_s1 "kept" "LNinetyNine$Waits;",
  .methodLink k9_s1 276 (k9_nm 76),
  .fieldLink k9_s1 279 k9_s1 "imaged" "Z",
  .fieldLink k9_s1 282 k9_s9 "begun" "I",
  .methodLink k9_s1 285 (k9_nm 69),
  .fieldLink k9_s1 289 k9_s8 "done" "I",
  .methodLink k9_s1 292 (k9_nm 70),
  .fieldLink k9_s1 295 k9_s8 "undone" "I",
  .fieldLink k9_s1 63 k9_s1 "steps" "LNinetyNine$Steps;"]
def k9_B17 : List Cond := [
  .methodLink k9_s1 298 (k9_nm 77),
  .fieldLink k9_s1 299 k9_s10 "count" "I",
  .methodLink k9_s1 300 (k9_nm 83),
  .methodLink k9_s1 304 (k9_nm 81),
  .methodLink k9_s1 307 (k9_nm 82),
  .methodLink k9_s1 310 (k9_nm 89),
  .methodLink k9_s1 313 (k9_nm 90),
  .methodLink k9_s1 316 (k9_nm 93),
  .methodLink k9_s1 319 (k9_nm 96),
  .constantLong k9_s1 324 (-9223372036854775808),
  .methodLink k9_s1 326 (k9_nm 94),
  .fieldLink k9_s1 329 k9_s11 "sort" "I",
  .methodLink k9_s1 332 (k9_nm 98),
  .fieldLink k9_s1 335 k9_s11 "body" "I",
  .methodLink k9_s1 338 (k9_nm 78),
  .methodLink k9_s1 341 (k9_nm 79),
  .fieldLink k9_s1 344 k9_s10 "ran" "I",
  .fieldLink k9_s1 69 k9_s1 "shelves" "[LNinetyNine$Shelf;",
  .fieldLink k9_s1 347 k9_s1 "rolled" "Z",
  .fieldLink k9_s1 350 k9_s1 "ordered" "Z",
  .methodLink k9_s1 353 (k9_nm 16),
  .methodLink k9_s1 357 (k9_nm 27),
  .methodLink k9_s1 360 (k9_nm 32),
  .methodLink k9_s1 363 (k9_nm 53),
  .methodLink k9_s1 367 (k9_nm 2),
  .methodLink k9_s1 370 (k9_nm 1),
  .fieldLink k9_s12 113 k9_s12 "pieces" "I",
  .methodLink k9_s12 116 (k9_nm 153),
  .fieldLink k9_s12 9 k9_s12 "bytes" "[I",
  .fieldLink k9_s12 15 k9_s12 "speed" "[I",
  .fieldLink k9_s12 18 k9_s12 "stuck" "[I",
  .fieldLink k9_s12 21 k9_s12 "files" "[I",
  .methodLink k9_s12 120 (k9_nm 157),
  .methodLink k9_s12 124 (k9_nm 156),
  .fieldLink k9_s12 72 k9_s12 "holding" "[I",
  .constantLong k9_s12 128 3,
  .fieldLink k9_s12 75 k9_s12 "rowLength" "[I",
  .fieldLink k9_s12 78 k9_s12 "rowOf" "[J",
  .methodLink k9_s12 130 (k9_nm 154),
  .fieldLink k9_s12 24 k9_s12 "ways" "[I",
  .methodLink k9_s12 133 (k9_nm 160),
  .methodLink k9_s12 137 (k9_nm 161),
  .methodLink k9_s12 140 (k9_nm 162),
  .methodLink k9_s12 144 (k9_nm 163),
  .fieldLink k9_s12 148 k9_s12 "done" "I",
  .fieldLink k9_s12 63 k9_s12 "changed" "[I",
  .fieldLink k9_s12 151 k9_s12 "changes" "I",
  .methodLink k9_s12 154 (k9_nm 184),
  .methodLink k9_s12 158 (k9_nm 185),
  .fieldLink k9_s12 162 k9_s12 "taped" "I"]
def k9_B18 : List Cond := [
  .fieldLink k9_s12 27 k9_s12 "tape" "[I",
  .fieldLink k9_s12 165 k9_s12 "at" "I",
  .methodLink k9_s12 168 (k9_nm 169),
  .fieldLink k9_s12 51 k9_s12 "newCode" "[I",
  .fieldLink k9_s12 171 k9_s12 "coded" "I",
  .methodLink k9_s12 174 (k9_nm 172),
  .methodLink k9_s12 178 (k9_nm 171),
  .methodLink k9_s12 181 (k9_nm 173),
  .fieldLink k9_s12 184 k9_s12 "open" "I",
  .methodLink k9_s12 187 (k9_nm 170),
  .methodLink k9_s12 190 (k9_nm 174),
  .methodLink k9_s12 193 (k9_nm 179),
  .methodLink k9_s12 196 (k9_nm 175),
  .methodLink k9_s12 199 (k9_nm 176),
  .methodLink k9_s12 202 (k9_nm 177),
  .methodLink k9_s12 205 (k9_nm 178),
  .fieldLink k9_s12 42 k9_s12 "newAsks" "[I",
  .fieldLink k9_s12 208 k9_s12 "newLines" "I",
  .fieldLink k9_s12 45 k9_s12 "newSays" "[I",
  .fieldLink k9_s12 48 k9_s12 "newEnds" "[I",
  .methodLink k9_s12 211 (k9_nm 180),
  .fieldLink k9_s12 214 k9_s12 "isTold" "Z",
  .fieldLink k9_s12 218 k9_s12 "lines" "I",
  .fieldLink k9_s12 30 k9_s12 "asks" "[I",
  .fieldLink k9_s12 33 k9_s12 "says" "[I",
  .fieldLink k9_s12 36 k9_s12 "ends" "[I",
  .fieldLink k9_s12 39 k9_s12 "code" "[I",
  .fieldLink k9_s12 54 k9_s12 "stack" "[I",
  .fieldLink k9_s12 88 k9_s12 "cents" "[I",
  .methodLink k9_s12 221 (k9_nm 182),
  .methodLink k9_s12 224 (k9_nm 183),
  .methodLink k9_s12 227 Lib.Math.min.name,
  .methodLink k9_s12 232 Lib.Math.max.name,
  .fieldLink k9_s12 235 k9_s12 "whole" "I",
  .fieldLink k9_s12 82 k9_s12 "line" "[I",
  .fieldLink k9_s12 85 k9_s12 "come" "[I",
  .methodLink k9_s12 238 (k9_nm 186),
  .fieldLink k9_s12 91 k9_s12 "times" "[I",
  .methodLink k9_s12 241 (k9_nm 187),
  .fieldLink k9_s12 94 k9_s12 "shown" "[I",
  .fieldLink k9_s12 103 k9_s12 "kept" "[I",
  .methodLink k9_s12 244 (k9_nm 189),
  .methodLink k9_s12 246 (k9_nm 188),
  .fieldLink k9_s12 250 k9_s12 "mostOff" "I",
  .fieldLink k9_s12 253 k9_s12 "sumOff" "I",
  .fieldLink k9_s12 256 k9_s12 "whenOff" "I",
  .fieldLink k9_s12 259 k9_s12 "standsLong" "I",
  .methodLink k9_s12 262 Lib.Math.abs.name,
  .fieldLink k9_s12 265 k9_s12 "standsFrom" "I",
  .methodLink k9_s12 268 (k9_nm 155)]
def k9_B19 : List Cond := [
  .methodLink k9_s12 271 (k9_nm 190),
  .methodLink k9_s12 274 (k9_nm 193),
  .methodLink k9_s12 277 (k9_nm 191),
  .methodLink k9_s12 280 (k9_nm 197),
  .methodLink k9_s12 283 (k9_nm 199),
  .methodLink k9_s12 286 (k9_nm 201),
  .fieldLink k9_s12 100 k9_s12 "orders" "[I",
  .methodLink k9_s12 289 (k9_nm 206),
  .fieldLink k9_s12 97 k9_s12 "best" "[I",
  .methodLink k9_s12 293 (k9_nm 205),
  .methodLink k9_s12 296 (k9_nm 208),
  .methodLink k9_s12 299 (k9_nm 209),
  .methodLink k9_s12 302 (k9_nm 210),
  .constant k9_s12 305 (-2000000000),
  .methodLink k9_s12 306 (k9_nm 216),
  .fieldLink k9_s12 106 k9_s12 "own" "[I",
  .constant k9_s12 309 1103515245,
  .fieldLink k9_s12 109 k9_s12 "second" "I",
  .fieldLink k9_s12 57 k9_s12 "led" "[I",
  .fieldLink k9_s12 310 k9_s12 "imaged" "Z",
  .fieldLink k9_s12 313 k9_s12 "oldSecond" "I",
  .fieldLink k9_s12 60 k9_s12 "oldLed" "[I",
  .fieldLink k9_s12 316 k9_s12 "traced" "I",
  .fieldLink k9_s12 69 k9_s12 "traces" "[I",
  .methodLink k9_s12 319 (k9_nm 230),
  .methodLink k9_s12 322 (k9_nm 231),
  .methodLink k9_s12 325 (k9_nm 229),
  .fieldLink k9_s12 66 k9_s12 "kind" "[I",
  .methodLink k9_s12 328 (k9_nm 232),
  .methodLink k9_s12 331 (k9_nm 233),
  .methodLink k9_s12 334 (k9_nm 234),
  .fieldLink k9_s12 337 k9_s12 "bodies" "I",
  .methodLink k9_s12 340 (k9_nm 240),
  .methodLink k9_s12 343 (k9_nm 241),
  .constantLong k9_s12 346 (-9223372036854775808),
  .methodLink k9_s0 13 (k9_nm 99),
  .methodLink k9_s0 17 (k9_nm 158),
  .methodLink k9_s0 18 (k9_nm 100),
  .methodLink k9_s0 22 (k9_nm 159),
  .methodLink k9_s0 23 (k9_nm 101),
  .methodLink k9_s0 26 (k9_nm 164),
  .methodLink k9_s0 27 (k9_nm 102),
  .methodLink k9_s0 30 (k9_nm 165),
  .methodLink k9_s0 31 (k9_nm 103),
  .methodLink k9_s0 35 (k9_nm 168),
  .methodLink k9_s0 36 (k9_nm 104),
  .methodLink k9_s0 40 (k9_nm 181),
  .methodLink k9_s0 41 (k9_nm 105),
  .methodLink k9_s0 44 (k9_nm 192),
  .methodLink k9_s0 45 (k9_nm 106)]
def k9_B20 : List Cond := [
  .methodLink k9_s0 48 (k9_nm 194),
  .methodLink k9_s0 49 (k9_nm 107),
  .methodLink k9_s0 52 (k9_nm 195),
  .methodLink k9_s0 53 (k9_nm 108),
  .methodLink k9_s0 56 (k9_nm 196),
  .methodLink k9_s0 57 (k9_nm 109),
  .methodLink k9_s0 60 (k9_nm 198),
  .methodLink k9_s0 61 (k9_nm 110),
  .methodLink k9_s0 64 (k9_nm 200),
  .methodLink k9_s0 65 (k9_nm 111),
  .methodLink k9_s0 68 (k9_nm 202),
  .methodLink k9_s0 69 (k9_nm 112),
  .methodLink k9_s0 72 (k9_nm 203),
  .methodLink k9_s0 73 (k9_nm 113),
  .methodLink k9_s0 76 (k9_nm 204),
  .methodLink k9_s0 77 (k9_nm 114),
  .methodLink k9_s0 80 (k9_nm 207),
  .methodLink k9_s0 81 (k9_nm 115),
  .methodLink k9_s0 84 (k9_nm 211),
  .methodLink k9_s0 85 (k9_nm 116),
  .methodLink k9_s0 88 (k9_nm 212),
  .methodLink k9_s0 89 (k9_nm 117),
  .methodLink k9_s0 92 (k9_nm 213),
  .methodLink k9_s0 93 (k9_nm 118),
  .methodLink k9_s0 96 (k9_nm 214),
  .methodLink k9_s0 97 (k9_nm 119),
  .methodLink k9_s0 100 (k9_nm 215),
  .methodLink k9_s0 101 (k9_nm 120),
  .methodLink k9_s0 104 (k9_nm 217),
  .methodLink k9_s0 105 (k9_nm 121),
  .methodLink k9_s0 108 (k9_nm 218),
  .methodLink k9_s0 109 (k9_nm 122),
  .methodLink k9_s0 112 (k9_nm 219),
  .methodLink k9_s0 113 (k9_nm 123),
  .methodLink k9_s0 116 (k9_nm 220),
  .methodLink k9_s0 117 (k9_nm 124),
  .methodLink k9_s0 120 (k9_nm 221),
  .methodLink k9_s0 121 (k9_nm 125),
  .methodLink k9_s0 125 (k9_nm 222),
  .methodLink k9_s0 126 (k9_nm 126),
  .methodLink k9_s0 129 (k9_nm 223),
  .methodLink k9_s0 130 (k9_nm 127),
  .methodLink k9_s0 133 (k9_nm 224),
  .methodLink k9_s0 134 (k9_nm 128),
  .methodLink k9_s0 137 (k9_nm 225),
  .methodLink k9_s0 138 (k9_nm 129),
  .methodLink k9_s0 141 (k9_nm 226),
  .methodLink k9_s0 142 (k9_nm 130),
  .methodLink k9_s0 145 (k9_nm 227),
  .methodLink k9_s0 146 (k9_nm 131)]
def k9_B21 : List Cond := [
  .methodLink k9_s0 149 (k9_nm 228),
  .methodLink k9_s0 150 (k9_nm 132),
  .methodLink k9_s0 153 (k9_nm 166),
  .methodLink k9_s0 154 (k9_nm 133),
  .methodLink k9_s0 157 (k9_nm 167),
  .methodLink k9_s0 158 (k9_nm 134),
  .methodLink k9_s0 161 (k9_nm 235),
  .methodLink k9_s0 162 (k9_nm 135),
  .methodLink k9_s0 165 (k9_nm 236),
  .methodLink k9_s0 166 (k9_nm 136),
  .methodLink k9_s0 169 (k9_nm 237),
  .methodLink k9_s0 170 (k9_nm 137),
  .methodLink k9_s0 173 (k9_nm 238),
  .methodLink k9_s0 174 (k9_nm 138),
  .methodLink k9_s0 177 (k9_nm 239),
  .constantLong k9_s0 178 4294967295,
  .methodLink k9_s0 180 (k9_nm 139),
  .methodLink k9_s0 184 (k9_nm 242),
  .methodLink k9_s0 185 (k9_nm 140),
  .methodLink k9_s0 189 (k9_nm 243),
  .methodLink k9_s0 190 (k9_nm 141),
  .methodLink k9_s0 194 (k9_nm 244),
  .methodLink k9_s0 195 (k9_nm 142),
  .methodLink k9_s0 198 (k9_nm 245),
  .methodLink k9_s0 199 (k9_nm 143),
  .methodLink k9_s0 202 (k9_nm 246),
  .instanceMethod objectInit,
  .code objectInit ⟨#[0xb1]⟩ 1 none,
  .classLink k9_s0 7 k9_s1,
  .instantiable k9_s1 15,
  .methodLink k9_s0 9 ⟨k9_s1, "<init>", "()V"⟩,
  .instanceMethod ⟨k9_s1, "<init>", "()V"⟩,
  .code ⟨k9_s1, "<init>", "()V"⟩ prog_1_method_1_code 2 none,
  .methodLink k9_s1 1 objectInit,
  .classLink k9_s1 7 k9_s2,
  .instantiable k9_s2 6,
  .instanceMethod ⟨k9_s2, "<init>", "()V"⟩,
  .code ⟨k9_s2, "<init>", "()V"⟩ prog_2_method_1_code 1 none,
  .methodLink k9_s2 3 objectInit,
  .classLink k9_s2 9 k9_s3,
  .instantiable k9_s3 8,
  .instanceMethod ⟨k9_s3, "<init>", "()V"⟩,
  .code ⟨k9_s3, "<init>", "()V"⟩ prog_11_method_1_code 1 none,
  .methodLink k9_s3 3 objectInit,
  .arrayClass .int,
  .classLink k9_s2 18 k9_s4,
  .instantiable k9_s4 14,
  .instanceMethod ⟨k9_s4, "<init>", "()V"⟩,
  .code ⟨k9_s4, "<init>", "()V"⟩ prog_10_method_1_code 1 none,
  .methodLink k9_s4 3 objectInit]
def k9_B22 : List Cond := [
  .classLink k9_s1 19 k9_s5,
  .instantiable k9_s5 5,
  .instanceMethod ⟨k9_s5, "<init>", "()V"⟩,
  .code ⟨k9_s5, "<init>", "()V"⟩ prog_8_method_1_code 1 none,
  .methodLink k9_s5 3 objectInit,
  .classLink k9_s1 26 k9_s6,
  .instantiable k9_s6 6,
  .instanceMethod ⟨k9_s6, "<init>", "()V"⟩,
  .code ⟨k9_s6, "<init>", "()V"⟩ prog_4_method_1_code 1 none,
  .methodLink k9_s6 1 objectInit,
  .classLink k9_s1 33 k9_s7,
  .instantiable k9_s7 2,
  .instanceMethod ⟨k9_s7, "<init>", "()V"⟩,
  .code ⟨k9_s7, "<init>", "()V"⟩ prog_5_method_1_code 1 none,
  .methodLink k9_s7 3 objectInit,
  .classLink k9_s1 43 k9_s8,
  .instantiable k9_s8 6,
  .instanceMethod ⟨k9_s8, "<init>", "()V"⟩,
  .code ⟨k9_s8, "<init>", "()V"⟩ prog_3_method_1_code 1 none,
  .methodLink k9_s8 1 objectInit,
  .classLink k9_s1 50 k9_s9,
  .instantiable k9_s9 7,
  .instanceMethod ⟨k9_s9, "<init>", "()V"⟩,
  .code ⟨k9_s9, "<init>", "()V"⟩ prog_9_method_1_code 1 none,
  .methodLink k9_s9 3 objectInit,
  .classLink k9_s1 60 k9_s10,
  .instantiable k9_s10 5,
  .instanceMethod ⟨k9_s10, "<init>", "()V"⟩,
  .code ⟨k9_s10, "<init>", "()V"⟩ prog_7_method_1_code 1 none,
  .methodLink k9_s10 1 objectInit,
  .classLink k9_s1 67 k9_s11,
  .instantiable k9_s11 5,
  .instanceMethod ⟨k9_s11, "<init>", "()V"⟩,
  .code ⟨k9_s11, "<init>", "()V"⟩ prog_6_method_1_code 1 none,
  .methodLink k9_s11 3 objectInit,
  .arrayClass .long,
  .classLink k9_s0 10 k9_s12,
  .instantiable k9_s12 53,
  .methodLink k9_s0 12 ⟨k9_s12, "<init>", "()V"⟩,
  .instanceMethod ⟨k9_s12, "<init>", "()V"⟩,
  .code ⟨k9_s12, "<init>", "()V"⟩ prog_13_method_1_code 2 none,
  .methodLink k9_s12 3 objectInit]
def k9_TBn : List Cond := k9_B0 ++ (k9_B1 ++ (k9_B2 ++ (k9_B3 ++ (k9_B4 ++ (k9_B5 ++ (k9_B6 ++ (k9_B7 ++ (k9_B8 ++ (k9_B9 ++ (k9_B10 ++ (k9_B11 ++ (k9_B12 ++ (k9_B13 ++ (k9_B14 ++ (k9_B15 ++ (k9_B16 ++ (k9_B17 ++ (k9_B18 ++ (k9_B19 ++ (k9_B20 ++ (k9_B21 ++ (k9_B22))))))))))))))))))))))
def k9d_Bs : List (List Cond) := [
  k9_B0, k9_B1, k9_B2, k9_B3, k9_B4, k9_B5, k9_B6, k9_B7, k9_B8, k9_B9, k9_B10, k9_B11, k9_B12, k9_B13, k9_B14, k9_B15, k9_B16, k9_B17, k9_B18, k9_B19,
  k9_B20, k9_B21, k9_B22]
def k9d_wat (n : Nat) : Option Cond := (k9_nth [] k9d_Bs (n / 50))[n % 50]?
def k9_cwd (z : Nat) : Cond := .code (k9_nm z) (k9_by z) (k9_ml z) (k9_rt z)
def k9_TB : List Cond := (List.range k9_law).map k9_cwd ++ k9_TBn
def k9_NS : List Cond := [
  .methodLinkNest k9_s1 9 ⟨k9_s2, "<init>", "()V"⟩ k9_host,
  .methodLinkNest k9_s2 11 ⟨k9_s3, "<init>", "()V"⟩ k9_host,
  .methodLinkNest k9_s2 20 ⟨k9_s4, "<init>", "()V"⟩ k9_host,
  .methodLinkNest k9_s1 21 ⟨k9_s5, "<init>", "()V"⟩ k9_host,
  .methodLinkNest k9_s1 28 ⟨k9_s6, "<init>", "()V"⟩ k9_host,
  .methodLinkNest k9_s1 35 ⟨k9_s7, "<init>", "()V"⟩ k9_host,
  .methodLinkNest k9_s1 45 ⟨k9_s8, "<init>", "()V"⟩ k9_host,
  .methodLinkNest k9_s1 52 ⟨k9_s9, "<init>", "()V"⟩ k9_host,
  .methodLinkNest k9_s1 62 ⟨k9_s10, "<init>", "()V"⟩ k9_host,
  .methodLinkNest k9_s1 73 ⟨k9_s11, "<init>", "()V"⟩ k9_host]
def k9_NSi : List Nat := [
  95, 101, 140, 215, 239, 265, 278, 305, 336, 361]
