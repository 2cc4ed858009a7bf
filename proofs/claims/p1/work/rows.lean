section
-- ===== PART A: goes FIRST, ahead of the names: the tables' words, and 'selects' of the private methods out of them =====
/-- a private method of a class that the tables say can be made, by its rows of tables_1 -/
def lw_okq (q : MethodName × Nat) : Prop := (q.1.cls ≠ "java/lang/invoke/MethodHandle" ∧ q.1.cls ≠ "java/lang/invoke/VarHandle") ∧ Cond.instantiable q.1.cls q.2 ∈ tables_1 ∧ Cond.privateMethod q.1 ∈ tables_1 ∧ Cond.instanceMethod q.1 ∈ tables_1
theorem lw_p0 : lw_okq (⟨"VerseCommittee", "putFour", "(I)V"⟩, 14) := ⟨⟨by decide +kernel, by decide +kernel⟩, List.mem_of_getElem? (i := 17) (by decide +kernel), List.mem_of_getElem? (i := 440) (by decide +kernel), List.mem_of_getElem? (i := 441) (by decide +kernel)⟩
theorem lw_p1 : lw_okq (⟨"VerseCommittee", "tapeHas", "(II)Z"⟩, 14) := ⟨⟨by decide +kernel, by decide +kernel⟩, List.mem_of_getElem? (i := 17) (by decide +kernel), List.mem_of_getElem? (i := 463) (by decide +kernel), List.mem_of_getElem? (i := 464) (by decide +kernel)⟩
theorem lw_p2 : lw_okq (⟨"VerseCommittee", "tapeHasTokens", "(I)Z"⟩, 14) := ⟨⟨by decide +kernel, by decide +kernel⟩, List.mem_of_getElem? (i := 17) (by decide +kernel), List.mem_of_getElem? (i := 467) (by decide +kernel), List.mem_of_getElem? (i := 468) (by decide +kernel)⟩
theorem lw_p3 : lw_okq (⟨"VerseCommittee", "tapeHasLetters", "(I)Z"⟩, 14) := ⟨⟨by decide +kernel, by decide +kernel⟩, List.mem_of_getElem? (i := 17) (by decide +kernel), List.mem_of_getElem? (i := 481) (by decide +kernel), List.mem_of_getElem? (i := 482) (by decide +kernel)⟩
theorem lw_p4 : lw_okq (⟨"VerseCommittee$Words", "isThere", "([II)Z"⟩, 3) := ⟨⟨by decide +kernel, by decide +kernel⟩, List.mem_of_getElem? (i := 25) (by decide +kernel), List.mem_of_getElem? (i := 489) (by decide +kernel), List.mem_of_getElem? (i := 490) (by decide +kernel)⟩
theorem lw_p5 : lw_okq (⟨"VerseCommittee$Words", "isSpelledSo", "(I[II)Z"⟩, 3) := ⟨⟨by decide +kernel, by decide +kernel⟩, List.mem_of_getElem? (i := 25) (by decide +kernel), List.mem_of_getElem? (i := 493) (by decide +kernel), List.mem_of_getElem? (i := 494) (by decide +kernel)⟩
theorem lw_p6 : lw_okq (⟨"VerseCommittee$Words", "put", "(I[II)V"⟩, 3) := ⟨⟨by decide +kernel, by decide +kernel⟩, List.mem_of_getElem? (i := 25) (by decide +kernel), List.mem_of_getElem? (i := 497) (by decide +kernel), List.mem_of_getElem? (i := 498) (by decide +kernel)⟩
theorem lw_p7 : lw_okq (⟨"VerseCommittee$Parser", "readClause", "(I)Z"⟩, 7) := ⟨⟨by decide +kernel, by decide +kernel⟩, List.mem_of_getElem? (i := 172) (by decide +kernel), List.mem_of_getElem? (i := 579) (by decide +kernel), List.mem_of_getElem? (i := 580) (by decide +kernel)⟩
theorem lw_p8 : lw_okq (⟨"VerseCommittee$Parser", "sign", "()I"⟩, 7) := ⟨⟨by decide +kernel, by decide +kernel⟩, List.mem_of_getElem? (i := 172) (by decide +kernel), List.mem_of_getElem? (i := 583) (by decide +kernel), List.mem_of_getElem? (i := 584) (by decide +kernel)⟩
theorem lw_p9 : lw_okq (⟨"VerseCommittee$Parser", "fail", "(II)Z"⟩, 7) := ⟨⟨by decide +kernel, by decide +kernel⟩, List.mem_of_getElem? (i := 172) (by decide +kernel), List.mem_of_getElem? (i := 587) (by decide +kernel), List.mem_of_getElem? (i := 588) (by decide +kernel)⟩
theorem lw_p10 : lw_okq (⟨"VerseCommittee$Parser", "readTurning", "(I)Z"⟩, 7) := ⟨⟨by decide +kernel, by decide +kernel⟩, List.mem_of_getElem? (i := 172) (by decide +kernel), List.mem_of_getElem? (i := 603) (by decide +kernel), List.mem_of_getElem? (i := 604) (by decide +kernel)⟩
theorem lw_p11 : lw_okq (⟨"VerseCommittee$Parser", "readNumber", "(I)I"⟩, 7) := ⟨⟨by decide +kernel, by decide +kernel⟩, List.mem_of_getElem? (i := 172) (by decide +kernel), List.mem_of_getElem? (i := 607) (by decide +kernel), List.mem_of_getElem? (i := 608) (by decide +kernel)⟩
theorem lw_p12 : lw_okq (⟨"VerseCommittee$Parser", "pass", "(I)Z"⟩, 7) := ⟨⟨by decide +kernel, by decide +kernel⟩, List.mem_of_getElem? (i := 172) (by decide +kernel), List.mem_of_getElem? (i := 614) (by decide +kernel), List.mem_of_getElem? (i := 615) (by decide +kernel)⟩
theorem lw_p13 : lw_okq (⟨"VerseCommittee$Parser", "readTail", "(II)Z"⟩, 7) := ⟨⟨by decide +kernel, by decide +kernel⟩, List.mem_of_getElem? (i := 172) (by decide +kernel), List.mem_of_getElem? (i := 618) (by decide +kernel), List.mem_of_getElem? (i := 619) (by decide +kernel)⟩
theorem lw_p14 : lw_okq (⟨"VerseCommittee$Parser", "readCondition", "(I)Z"⟩, 7) := ⟨⟨by decide +kernel, by decide +kernel⟩, List.mem_of_getElem? (i := 172) (by decide +kernel), List.mem_of_getElem? (i := 622) (by decide +kernel), List.mem_of_getElem? (i := 623) (by decide +kernel)⟩
theorem lw_p15 : lw_okq (⟨"VerseCommittee$Parser", "readPart", "(I)Z"⟩, 7) := ⟨⟨by decide +kernel, by decide +kernel⟩, List.mem_of_getElem? (i := 172) (by decide +kernel), List.mem_of_getElem? (i := 626) (by decide +kernel), List.mem_of_getElem? (i := 627) (by decide +kernel)⟩
def lw_privs_1 : List (MethodName × Nat) := [(⟨"VerseCommittee", "putFour", "(I)V"⟩, 14), (⟨"VerseCommittee", "tapeHas", "(II)Z"⟩, 14), (⟨"VerseCommittee", "tapeHasTokens", "(I)Z"⟩, 14), (⟨"VerseCommittee", "tapeHasLetters", "(I)Z"⟩, 14), (⟨"VerseCommittee$Words", "isThere", "([II)Z"⟩, 3), (⟨"VerseCommittee$Words", "isSpelledSo", "(I[II)Z"⟩, 3), (⟨"VerseCommittee$Words", "put", "(I[II)V"⟩, 3), (⟨"VerseCommittee$Parser", "readClause", "(I)Z"⟩, 7), (⟨"VerseCommittee$Parser", "sign", "()I"⟩, 7), (⟨"VerseCommittee$Parser", "fail", "(II)Z"⟩, 7), (⟨"VerseCommittee$Parser", "readTurning", "(I)Z"⟩, 7), (⟨"VerseCommittee$Parser", "readNumber", "(I)I"⟩, 7), (⟨"VerseCommittee$Parser", "pass", "(I)Z"⟩, 7), (⟨"VerseCommittee$Parser", "readTail", "(II)Z"⟩, 7), (⟨"VerseCommittee$Parser", "readCondition", "(I)Z"⟩, 7), (⟨"VerseCommittee$Parser", "readPart", "(I)Z"⟩, 7)]
theorem lw_r1 : ∀ q ∈ lw_privs_1, lw_okq q := List.forall_mem_cons.mpr ⟨lw_p0, List.forall_mem_cons.mpr ⟨lw_p1, List.forall_mem_cons.mpr ⟨lw_p2, List.forall_mem_cons.mpr ⟨lw_p3, List.forall_mem_cons.mpr ⟨lw_p4, List.forall_mem_cons.mpr ⟨lw_p5, List.forall_mem_cons.mpr ⟨lw_p6, List.forall_mem_cons.mpr ⟨lw_p7, List.forall_mem_cons.mpr ⟨lw_p8, List.forall_mem_cons.mpr ⟨lw_p9, List.forall_mem_cons.mpr ⟨lw_p10, List.forall_mem_cons.mpr ⟨lw_p11, List.forall_mem_cons.mpr ⟨lw_p12, List.forall_mem_cons.mpr ⟨lw_p13, List.forall_mem_cons.mpr ⟨lw_p14, List.forall_mem_cons.mpr ⟨lw_p15, fun _ h => absurd h List.not_mem_nil⟩⟩⟩⟩⟩⟩⟩⟩⟩⟩⟩⟩⟩⟩⟩⟩
theorem lw_p16 : lw_okq (⟨"VerseCommittee$Parser", "readPiece", "(I)Z"⟩, 7) := ⟨⟨by decide +kernel, by decide +kernel⟩, List.mem_of_getElem? (i := 172) (by decide +kernel), List.mem_of_getElem? (i := 630) (by decide +kernel), List.mem_of_getElem? (i := 631) (by decide +kernel)⟩
theorem lw_p17 : lw_okq (⟨"VerseCommittee$Parser", "readOpening", "(I)Z"⟩, 7) := ⟨⟨by decide +kernel, by decide +kernel⟩, List.mem_of_getElem? (i := 172) (by decide +kernel), List.mem_of_getElem? (i := 634) (by decide +kernel), List.mem_of_getElem? (i := 635) (by decide +kernel)⟩
theorem lw_p18 : lw_okq (⟨"VerseCommittee$Parser", "readSum", "(I)Z"⟩, 7) := ⟨⟨by decide +kernel, by decide +kernel⟩, List.mem_of_getElem? (i := 172) (by decide +kernel), List.mem_of_getElem? (i := 638) (by decide +kernel), List.mem_of_getElem? (i := 639) (by decide +kernel)⟩
theorem lw_p19 : lw_okq (⟨"VerseCommittee$Parser", "readTerm", "(I)Z"⟩, 7) := ⟨⟨by decide +kernel, by decide +kernel⟩, List.mem_of_getElem? (i := 172) (by decide +kernel), List.mem_of_getElem? (i := 642) (by decide +kernel), List.mem_of_getElem? (i := 643) (by decide +kernel)⟩
theorem lw_p20 : lw_okq (⟨"VerseCommittee$Parser", "readFactor", "(I)Z"⟩, 7) := ⟨⟨by decide +kernel, by decide +kernel⟩, List.mem_of_getElem? (i := 172) (by decide +kernel), List.mem_of_getElem? (i := 646) (by decide +kernel), List.mem_of_getElem? (i := 647) (by decide +kernel)⟩
theorem lw_p21 : lw_okq (⟨"VerseCommittee$Parser", "isTermSign", "()Z"⟩, 7) := ⟨⟨by decide +kernel, by decide +kernel⟩, List.mem_of_getElem? (i := 172) (by decide +kernel), List.mem_of_getElem? (i := 651) (by decide +kernel), List.mem_of_getElem? (i := 652) (by decide +kernel)⟩
theorem lw_p22 : lw_okq (⟨"VerseCommittee$Parser", "readComparison", "()Z"⟩, 7) := ⟨⟨by decide +kernel, by decide +kernel⟩, List.mem_of_getElem? (i := 172) (by decide +kernel), List.mem_of_getElem? (i := 655) (by decide +kernel), List.mem_of_getElem? (i := 656) (by decide +kernel)⟩
theorem lw_p23 : lw_okq (⟨"VerseCommittee$Parser", "readRanks", "(I)Z"⟩, 7) := ⟨⟨by decide +kernel, by decide +kernel⟩, List.mem_of_getElem? (i := 172) (by decide +kernel), List.mem_of_getElem? (i := 659) (by decide +kernel), List.mem_of_getElem? (i := 660) (by decide +kernel)⟩
theorem lw_p24 : lw_okq (⟨"VerseCommittee$Parser", "readHundredths", "(I)Z"⟩, 7) := ⟨⟨by decide +kernel, by decide +kernel⟩, List.mem_of_getElem? (i := 172) (by decide +kernel), List.mem_of_getElem? (i := 663) (by decide +kernel), List.mem_of_getElem? (i := 664) (by decide +kernel)⟩
theorem lw_p25 : lw_okq (⟨"VerseCommittee$Parser", "readRest", "(I)Z"⟩, 7) := ⟨⟨by decide +kernel, by decide +kernel⟩, List.mem_of_getElem? (i := 172) (by decide +kernel), List.mem_of_getElem? (i := 667) (by decide +kernel), List.mem_of_getElem? (i := 668) (by decide +kernel)⟩
theorem lw_p26 : lw_okq (⟨"VerseCommittee$Reckoner", "findCopy", "()V"⟩, 14) := ⟨⟨by decide +kernel, by decide +kernel⟩, List.mem_of_getElem? (i := 202) (by decide +kernel), List.mem_of_getElem? (i := 723) (by decide +kernel), List.mem_of_getElem? (i := 724) (by decide +kernel)⟩
theorem lw_p27 : lw_okq (⟨"VerseCommittee$Reckoner", "lastInForce", "(II)I"⟩, 14) := ⟨⟨by decide +kernel, by decide +kernel⟩, List.mem_of_getElem? (i := 202) (by decide +kernel), List.mem_of_getElem? (i := 727) (by decide +kernel), List.mem_of_getElem? (i := 728) (by decide +kernel)⟩
theorem lw_p28 : lw_okq (⟨"VerseCommittee$Reckoner", "reckonCondition", "(ZI)Z"⟩, 14) := ⟨⟨by decide +kernel, by decide +kernel⟩, List.mem_of_getElem? (i := 202) (by decide +kernel), List.mem_of_getElem? (i := 774) (by decide +kernel), List.mem_of_getElem? (i := 775) (by decide +kernel)⟩
theorem lw_p29 : lw_okq (⟨"VerseCommittee$Reckoner", "reckonPart", "(ZI)Z"⟩, 14) := ⟨⟨by decide +kernel, by decide +kernel⟩, List.mem_of_getElem? (i := 202) (by decide +kernel), List.mem_of_getElem? (i := 778) (by decide +kernel), List.mem_of_getElem? (i := 779) (by decide +kernel)⟩
theorem lw_p30 : lw_okq (⟨"VerseCommittee$Reckoner", "reckonPiece", "(ZI)Z"⟩, 14) := ⟨⟨by decide +kernel, by decide +kernel⟩, List.mem_of_getElem? (i := 202) (by decide +kernel), List.mem_of_getElem? (i := 782) (by decide +kernel), List.mem_of_getElem? (i := 783) (by decide +kernel)⟩
theorem lw_p31 : lw_okq (⟨"VerseCommittee$Reckoner", "sign", "()I"⟩, 14) := ⟨⟨by decide +kernel, by decide +kernel⟩, List.mem_of_getElem? (i := 202) (by decide +kernel), List.mem_of_getElem? (i := 786) (by decide +kernel), List.mem_of_getElem? (i := 787) (by decide +kernel)⟩
def lw_privs_2 : List (MethodName × Nat) := [(⟨"VerseCommittee$Parser", "readPiece", "(I)Z"⟩, 7), (⟨"VerseCommittee$Parser", "readOpening", "(I)Z"⟩, 7), (⟨"VerseCommittee$Parser", "readSum", "(I)Z"⟩, 7), (⟨"VerseCommittee$Parser", "readTerm", "(I)Z"⟩, 7), (⟨"VerseCommittee$Parser", "readFactor", "(I)Z"⟩, 7), (⟨"VerseCommittee$Parser", "isTermSign", "()Z"⟩, 7), (⟨"VerseCommittee$Parser", "readComparison", "()Z"⟩, 7), (⟨"VerseCommittee$Parser", "readRanks", "(I)Z"⟩, 7), (⟨"VerseCommittee$Parser", "readHundredths", "(I)Z"⟩, 7), (⟨"VerseCommittee$Parser", "readRest", "(I)Z"⟩, 7), (⟨"VerseCommittee$Reckoner", "findCopy", "()V"⟩, 14), (⟨"VerseCommittee$Reckoner", "lastInForce", "(II)I"⟩, 14), (⟨"VerseCommittee$Reckoner", "reckonCondition", "(ZI)Z"⟩, 14), (⟨"VerseCommittee$Reckoner", "reckonPart", "(ZI)Z"⟩, 14), (⟨"VerseCommittee$Reckoner", "reckonPiece", "(ZI)Z"⟩, 14), (⟨"VerseCommittee$Reckoner", "sign", "()I"⟩, 14)]
theorem lw_r2 : ∀ q ∈ lw_privs_2, lw_okq q := List.forall_mem_cons.mpr ⟨lw_p16, List.forall_mem_cons.mpr ⟨lw_p17, List.forall_mem_cons.mpr ⟨lw_p18, List.forall_mem_cons.mpr ⟨lw_p19, List.forall_mem_cons.mpr ⟨lw_p20, List.forall_mem_cons.mpr ⟨lw_p21, List.forall_mem_cons.mpr ⟨lw_p22, List.forall_mem_cons.mpr ⟨lw_p23, List.forall_mem_cons.mpr ⟨lw_p24, List.forall_mem_cons.mpr ⟨lw_p25, List.forall_mem_cons.mpr ⟨lw_p26, List.forall_mem_cons.mpr ⟨lw_p27, List.forall_mem_cons.mpr ⟨lw_p28, List.forall_mem_cons.mpr ⟨lw_p29, List.forall_mem_cons.mpr ⟨lw_p30, List.forall_mem_cons.mpr ⟨lw_p31, fun _ h => absurd h List.not_mem_nil⟩⟩⟩⟩⟩⟩⟩⟩⟩⟩⟩⟩⟩⟩⟩⟩
theorem lw_p32 : lw_okq (⟨"VerseCommittee$Reckoner", "reckonSum", "(ZI)I"⟩, 14) := ⟨⟨by decide +kernel, by decide +kernel⟩, List.mem_of_getElem? (i := 202) (by decide +kernel), List.mem_of_getElem? (i := 790) (by decide +kernel), List.mem_of_getElem? (i := 791) (by decide +kernel)⟩
theorem lw_p33 : lw_okq (⟨"VerseCommittee$Reckoner", "reckonTerm", "(ZI)I"⟩, 14) := ⟨⟨by decide +kernel, by decide +kernel⟩, List.mem_of_getElem? (i := 202) (by decide +kernel), List.mem_of_getElem? (i := 794) (by decide +kernel), List.mem_of_getElem? (i := 795) (by decide +kernel)⟩
theorem lw_p34 : lw_okq (⟨"VerseCommittee$Reckoner", "reckonFactor", "(ZI)I"⟩, 14) := ⟨⟨by decide +kernel, by decide +kernel⟩, List.mem_of_getElem? (i := 202) (by decide +kernel), List.mem_of_getElem? (i := 798) (by decide +kernel), List.mem_of_getElem? (i := 799) (by decide +kernel)⟩
theorem lw_p35 : lw_okq (⟨"VerseCommittee$Reckoner", "numberThere", "()I"⟩, 14) := ⟨⟨by decide +kernel, by decide +kernel⟩, List.mem_of_getElem? (i := 202) (by decide +kernel), List.mem_of_getElem? (i := 805) (by decide +kernel), List.mem_of_getElem? (i := 806) (by decide +kernel)⟩
theorem lw_p36 : lw_okq (⟨"VerseCommittee$Reckoner", "letterValue", "(I)I"⟩, 14) := ⟨⟨by decide +kernel, by decide +kernel⟩, List.mem_of_getElem? (i := 202) (by decide +kernel), List.mem_of_getElem? (i := 809) (by decide +kernel), List.mem_of_getElem? (i := 810) (by decide +kernel)⟩
theorem lw_p37 : lw_okq (⟨"VerseCommittee", "distance", "([I[I)I"⟩, 14) := ⟨⟨by decide +kernel, by decide +kernel⟩, List.mem_of_getElem? (i := 17) (by decide +kernel), List.mem_of_getElem? (i := 849) (by decide +kernel), List.mem_of_getElem? (i := 850) (by decide +kernel)⟩
theorem lw_p38 : lw_okq (⟨"VerseCommittee", "tapeHasSlots", "(II)Z"⟩, 14) := ⟨⟨by decide +kernel, by decide +kernel⟩, List.mem_of_getElem? (i := 17) (by decide +kernel), List.mem_of_getElem? (i := 870) (by decide +kernel), List.mem_of_getElem? (i := 871) (by decide +kernel)⟩
theorem lw_p39 : lw_okq (⟨"VerseCommittee", "votersOf", "(LVerseCommittee$Rendering;)I"⟩, 14) := ⟨⟨by decide +kernel, by decide +kernel⟩, List.mem_of_getElem? (i := 17) (by decide +kernel), List.mem_of_getElem? (i := 945) (by decide +kernel), List.mem_of_getElem? (i := 946) (by decide +kernel)⟩
theorem lw_p40 : lw_okq (⟨"VerseCommittee$Shelf", "setFixed", "(III)V"⟩, 7) := ⟨⟨by decide +kernel, by decide +kernel⟩, List.mem_of_getElem? (i := 142) (by decide +kernel), List.mem_of_getElem? (i := 1019) (by decide +kernel), List.mem_of_getElem? (i := 1020) (by decide +kernel)⟩
theorem lw_p41 : lw_okq (⟨"VerseCommittee$Rendering", "standsWithout", "(II)Z"⟩, 14) := ⟨⟨by decide +kernel, by decide +kernel⟩, List.mem_of_getElem? (i := 874) (by decide +kernel), List.mem_of_getElem? (i := 1044) (by decide +kernel), List.mem_of_getElem? (i := 1045) (by decide +kernel)⟩
theorem lw_p42 : lw_okq (⟨"VerseCommittee", "isPastDay", "(I)Z"⟩, 14) := ⟨⟨by decide +kernel, by decide +kernel⟩, List.mem_of_getElem? (i := 17) (by decide +kernel), List.mem_of_getElem? (i := 1062) (by decide +kernel), List.mem_of_getElem? (i := 1063) (by decide +kernel)⟩
theorem lw_p43 : lw_okq (⟨"VerseCommittee$Findings", "gatherHeld", "(II[I)V"⟩, 13) := ⟨⟨by decide +kernel, by decide +kernel⟩, List.mem_of_getElem? (i := 252) (by decide +kernel), List.mem_of_getElem? (i := 1083) (by decide +kernel), List.mem_of_getElem? (i := 1084) (by decide +kernel)⟩
theorem lw_p44 : lw_okq (⟨"VerseCommittee$Findings", "tellClause", "(II)V"⟩, 13) := ⟨⟨by decide +kernel, by decide +kernel⟩, List.mem_of_getElem? (i := 252) (by decide +kernel), List.mem_of_getElem? (i := 1108) (by decide +kernel), List.mem_of_getElem? (i := 1109) (by decide +kernel)⟩
theorem lw_p45 : lw_okq (⟨"VerseCommittee$Findings", "seekSecond", "(III)Z"⟩, 13) := ⟨⟨by decide +kernel, by decide +kernel⟩, List.mem_of_getElem? (i := 252) (by decide +kernel), List.mem_of_getElem? (i := 1138) (by decide +kernel), List.mem_of_getElem? (i := 1139) (by decide +kernel)⟩
theorem lw_p46 : lw_okq (⟨"VerseCommittee$Findings", "markAlike", "(II)Z"⟩, 13) := ⟨⟨by decide +kernel, by decide +kernel⟩, List.mem_of_getElem? (i := 252) (by decide +kernel), List.mem_of_getElem? (i := 1155) (by decide +kernel), List.mem_of_getElem? (i := 1156) (by decide +kernel)⟩
theorem lw_p47 : lw_okq (⟨"VerseCommittee$Findings", "addPlaces", "(I[I)V"⟩, 13) := ⟨⟨by decide +kernel, by decide +kernel⟩, List.mem_of_getElem? (i := 252) (by decide +kernel), List.mem_of_getElem? (i := 1159) (by decide +kernel), List.mem_of_getElem? (i := 1160) (by decide +kernel)⟩
def lw_privs_3 : List (MethodName × Nat) := [(⟨"VerseCommittee$Reckoner", "reckonSum", "(ZI)I"⟩, 14), (⟨"VerseCommittee$Reckoner", "reckonTerm", "(ZI)I"⟩, 14), (⟨"VerseCommittee$Reckoner", "reckonFactor", "(ZI)I"⟩, 14), (⟨"VerseCommittee$Reckoner", "numberThere", "()I"⟩, 14), (⟨"VerseCommittee$Reckoner", "letterValue", "(I)I"⟩, 14), (⟨"VerseCommittee", "distance", "([I[I)I"⟩, 14), (⟨"VerseCommittee", "tapeHasSlots", "(II)Z"⟩, 14), (⟨"VerseCommittee", "votersOf", "(LVerseCommittee$Rendering;)I"⟩, 14), (⟨"VerseCommittee$Shelf", "setFixed", "(III)V"⟩, 7), (⟨"VerseCommittee$Rendering", "standsWithout", "(II)Z"⟩, 14), (⟨"VerseCommittee", "isPastDay", "(I)Z"⟩, 14), (⟨"VerseCommittee$Findings", "gatherHeld", "(II[I)V"⟩, 13), (⟨"VerseCommittee$Findings", "tellClause", "(II)V"⟩, 13), (⟨"VerseCommittee$Findings", "seekSecond", "(III)Z"⟩, 13), (⟨"VerseCommittee$Findings", "markAlike", "(II)Z"⟩, 13), (⟨"VerseCommittee$Findings", "addPlaces", "(I[I)V"⟩, 13)]
theorem lw_r3 : ∀ q ∈ lw_privs_3, lw_okq q := List.forall_mem_cons.mpr ⟨lw_p32, List.forall_mem_cons.mpr ⟨lw_p33, List.forall_mem_cons.mpr ⟨lw_p34, List.forall_mem_cons.mpr ⟨lw_p35, List.forall_mem_cons.mpr ⟨lw_p36, List.forall_mem_cons.mpr ⟨lw_p37, List.forall_mem_cons.mpr ⟨lw_p38, List.forall_mem_cons.mpr ⟨lw_p39, List.forall_mem_cons.mpr ⟨lw_p40, List.forall_mem_cons.mpr ⟨lw_p41, List.forall_mem_cons.mpr ⟨lw_p42, List.forall_mem_cons.mpr ⟨lw_p43, List.forall_mem_cons.mpr ⟨lw_p44, List.forall_mem_cons.mpr ⟨lw_p45, List.forall_mem_cons.mpr ⟨lw_p46, List.forall_mem_cons.mpr ⟨lw_p47, fun _ h => absurd h List.not_mem_nil⟩⟩⟩⟩⟩⟩⟩⟩⟩⟩⟩⟩⟩⟩⟩⟩
theorem lw_p48 : lw_okq (⟨"VerseCommittee$Findings", "isUnlike", "(II)Z"⟩, 13) := ⟨⟨by decide +kernel, by decide +kernel⟩, List.mem_of_getElem? (i := 252) (by decide +kernel), List.mem_of_getElem? (i := 1163) (by decide +kernel), List.mem_of_getElem? (i := 1164) (by decide +kernel)⟩
theorem lw_p49 : lw_okq (⟨"VerseCommittee$Findings", "shareClause", "(II)Z"⟩, 13) := ⟨⟨by decide +kernel, by decide +kernel⟩, List.mem_of_getElem? (i := 252) (by decide +kernel), List.mem_of_getElem? (i := 1167) (by decide +kernel), List.mem_of_getElem? (i := 1168) (by decide +kernel)⟩
theorem lw_p50 : lw_okq (⟨"VerseCommittee$Rendering", "nextSlot", "(II)I"⟩, 14) := ⟨⟨by decide +kernel, by decide +kernel⟩, List.mem_of_getElem? (i := 874) (by decide +kernel), List.mem_of_getElem? (i := 1175) (by decide +kernel), List.mem_of_getElem? (i := 1176) (by decide +kernel)⟩
theorem lw_p51 : lw_okq (⟨"VerseCommittee$Choices", "placeOf", "(I)I"⟩, 14) := ⟨⟨by decide +kernel, by decide +kernel⟩, List.mem_of_getElem? (i := 299) (by decide +kernel), List.mem_of_getElem? (i := 1198) (by decide +kernel), List.mem_of_getElem? (i := 1199) (by decide +kernel)⟩
theorem lw_p52 : lw_okq (⟨"VerseCommittee$Choices", "isOption", "(II)Z"⟩, 14) := ⟨⟨by decide +kernel, by decide +kernel⟩, List.mem_of_getElem? (i := 299) (by decide +kernel), List.mem_of_getElem? (i := 1202) (by decide +kernel), List.mem_of_getElem? (i := 1203) (by decide +kernel)⟩
theorem lw_p53 : lw_okq (⟨"VerseCommittee$Choices", "arePart", "(II)Z"⟩, 14) := ⟨⟨by decide +kernel, by decide +kernel⟩, List.mem_of_getElem? (i := 299) (by decide +kernel), List.mem_of_getElem? (i := 1214) (by decide +kernel), List.mem_of_getElem? (i := 1215) (by decide +kernel)⟩
theorem lw_p54 : lw_okq (⟨"VerseCommittee$Choices", "addPrices", "(LVerseCommittee$Rendering;)V"⟩, 14) := ⟨⟨by decide +kernel, by decide +kernel⟩, List.mem_of_getElem? (i := 299) (by decide +kernel), List.mem_of_getElem? (i := 1232) (by decide +kernel), List.mem_of_getElem? (i := 1233) (by decide +kernel)⟩
theorem lw_p55 : lw_okq (⟨"VerseCommittee$Choices", "barByClauses", "(I[II)V"⟩, 14) := ⟨⟨by decide +kernel, by decide +kernel⟩, List.mem_of_getElem? (i := 299) (by decide +kernel), List.mem_of_getElem? (i := 1243) (by decide +kernel), List.mem_of_getElem? (i := 1244) (by decide +kernel)⟩
theorem lw_p56 : lw_okq (⟨"VerseCommittee$Choices", "barOthers", "(II)V"⟩, 14) := ⟨⟨by decide +kernel, by decide +kernel⟩, List.mem_of_getElem? (i := 299) (by decide +kernel), List.mem_of_getElem? (i := 1257) (by decide +kernel), List.mem_of_getElem? (i := 1258) (by decide +kernel)⟩
theorem lw_p57 : lw_okq (⟨"VerseCommittee$Choices", "mayStand", "(I)Z"⟩, 14) := ⟨⟨by decide +kernel, by decide +kernel⟩, List.mem_of_getElem? (i := 299) (by decide +kernel), List.mem_of_getElem? (i := 1265) (by decide +kernel), List.mem_of_getElem? (i := 1266) (by decide +kernel)⟩
theorem lw_p58 : lw_okq (⟨"VerseCommittee$Choices", "chosen", "(I)I"⟩, 14) := ⟨⟨by decide +kernel, by decide +kernel⟩, List.mem_of_getElem? (i := 299) (by decide +kernel), List.mem_of_getElem? (i := 1269) (by decide +kernel), List.mem_of_getElem? (i := 1270) (by decide +kernel)⟩
theorem lw_p59 : lw_okq (⟨"VerseCommittee$Choices", "choose", "(II)V"⟩, 14) := ⟨⟨by decide +kernel, by decide +kernel⟩, List.mem_of_getElem? (i := 299) (by decide +kernel), List.mem_of_getElem? (i := 1282) (by decide +kernel), List.mem_of_getElem? (i := 1283) (by decide +kernel)⟩
theorem lw_p60 : lw_okq (⟨"VerseCommittee$Choices", "choiceOfRow", "()I"⟩, 14) := ⟨⟨by decide +kernel, by decide +kernel⟩, List.mem_of_getElem? (i := 299) (by decide +kernel), List.mem_of_getElem? (i := 1286) (by decide +kernel), List.mem_of_getElem? (i := 1287) (by decide +kernel)⟩
theorem lw_p61 : lw_okq (⟨"VerseCommittee$Choices", "chooseOption", "(III)V"⟩, 14) := ⟨⟨by decide +kernel, by decide +kernel⟩, List.mem_of_getElem? (i := 299) (by decide +kernel), List.mem_of_getElem? (i := 1290) (by decide +kernel), List.mem_of_getElem? (i := 1291) (by decide +kernel)⟩
theorem lw_p62 : lw_okq (⟨"VerseCommittee", "breaksMeasure", "(LVerseCommittee$Rendering;I)Z"⟩, 14) := ⟨⟨by decide +kernel, by decide +kernel⟩, List.mem_of_getElem? (i := 17) (by decide +kernel), List.mem_of_getElem? (i := 1301) (by decide +kernel), List.mem_of_getElem? (i := 1302) (by decide +kernel)⟩
theorem lw_p63 : lw_okq (⟨"VerseCommittee", "wordsFixedThen", "(II)[I"⟩, 14) := ⟨⟨by decide +kernel, by decide +kernel⟩, List.mem_of_getElem? (i := 17) (by decide +kernel), List.mem_of_getElem? (i := 1328) (by decide +kernel), List.mem_of_getElem? (i := 1329) (by decide +kernel)⟩
def lw_privs_4 : List (MethodName × Nat) := [(⟨"VerseCommittee$Findings", "isUnlike", "(II)Z"⟩, 13), (⟨"VerseCommittee$Findings", "shareClause", "(II)Z"⟩, 13), (⟨"VerseCommittee$Rendering", "nextSlot", "(II)I"⟩, 14), (⟨"VerseCommittee$Choices", "placeOf", "(I)I"⟩, 14), (⟨"VerseCommittee$Choices", "isOption", "(II)Z"⟩, 14), (⟨"VerseCommittee$Choices", "arePart", "(II)Z"⟩, 14), (⟨"VerseCommittee$Choices", "addPrices", "(LVerseCommittee$Rendering;)V"⟩, 14), (⟨"VerseCommittee$Choices", "barByClauses", "(I[II)V"⟩, 14), (⟨"VerseCommittee$Choices", "barOthers", "(II)V"⟩, 14), (⟨"VerseCommittee$Choices", "mayStand", "(I)Z"⟩, 14), (⟨"VerseCommittee$Choices", "chosen", "(I)I"⟩, 14), (⟨"VerseCommittee$Choices", "choose", "(II)V"⟩, 14), (⟨"VerseCommittee$Choices", "choiceOfRow", "()I"⟩, 14), (⟨"VerseCommittee$Choices", "chooseOption", "(III)V"⟩, 14), (⟨"VerseCommittee", "breaksMeasure", "(LVerseCommittee$Rendering;I)Z"⟩, 14), (⟨"VerseCommittee", "wordsFixedThen", "(II)[I"⟩, 14)]
theorem lw_r4 : ∀ q ∈ lw_privs_4, lw_okq q := List.forall_mem_cons.mpr ⟨lw_p48, List.forall_mem_cons.mpr ⟨lw_p49, List.forall_mem_cons.mpr ⟨lw_p50, List.forall_mem_cons.mpr ⟨lw_p51, List.forall_mem_cons.mpr ⟨lw_p52, List.forall_mem_cons.mpr ⟨lw_p53, List.forall_mem_cons.mpr ⟨lw_p54, List.forall_mem_cons.mpr ⟨lw_p55, List.forall_mem_cons.mpr ⟨lw_p56, List.forall_mem_cons.mpr ⟨lw_p57, List.forall_mem_cons.mpr ⟨lw_p58, List.forall_mem_cons.mpr ⟨lw_p59, List.forall_mem_cons.mpr ⟨lw_p60, List.forall_mem_cons.mpr ⟨lw_p61, List.forall_mem_cons.mpr ⟨lw_p62, List.forall_mem_cons.mpr ⟨lw_p63, fun _ h => absurd h List.not_mem_nil⟩⟩⟩⟩⟩⟩⟩⟩⟩⟩⟩⟩⟩⟩⟩⟩
theorem lw_p64 : lw_okq (⟨"VerseCommittee$Words", "formIn", "(II)I"⟩, 3) := ⟨⟨by decide +kernel, by decide +kernel⟩, List.mem_of_getElem? (i := 25) (by decide +kernel), List.mem_of_getElem? (i := 1346) (by decide +kernel), List.mem_of_getElem? (i := 1347) (by decide +kernel)⟩
theorem lw_p65 : lw_okq (⟨"VerseCommittee", "signOfAdded", "(III)I"⟩, 14) := ⟨⟨by decide +kernel, by decide +kernel⟩, List.mem_of_getElem? (i := 17) (by decide +kernel), List.mem_of_getElem? (i := 1350) (by decide +kernel), List.mem_of_getElem? (i := 1351) (by decide +kernel)⟩
theorem lw_p66 : lw_okq (⟨"VerseCommittee$Planner", "gatherBooks", "()V"⟩, 10) := ⟨⟨by decide +kernel, by decide +kernel⟩, List.mem_of_getElem? (i := 349) (by decide +kernel), List.mem_of_getElem? (i := 1367) (by decide +kernel), List.mem_of_getElem? (i := 1368) (by decide +kernel)⟩
theorem lw_p67 : lw_okq (⟨"VerseCommittee$Planner", "daysOfCentre", "()I"⟩, 10) := ⟨⟨by decide +kernel, by decide +kernel⟩, List.mem_of_getElem? (i := 349) (by decide +kernel), List.mem_of_getElem? (i := 1375) (by decide +kernel), List.mem_of_getElem? (i := 1376) (by decide +kernel)⟩
theorem lw_p68 : lw_okq (⟨"VerseCommittee$Planner", "give", "(II)V"⟩, 10) := ⟨⟨by decide +kernel, by decide +kernel⟩, List.mem_of_getElem? (i := 349) (by decide +kernel), List.mem_of_getElem? (i := 1386) (by decide +kernel), List.mem_of_getElem? (i := 1387) (by decide +kernel)⟩
theorem lw_p69 : lw_okq (⟨"VerseCommittee$Planner", "mayHave", "(II)Z"⟩, 10) := ⟨⟨by decide +kernel, by decide +kernel⟩, List.mem_of_getElem? (i := 349) (by decide +kernel), List.mem_of_getElem? (i := 1394) (by decide +kernel), List.mem_of_getElem? (i := 1395) (by decide +kernel)⟩
theorem lw_p70 : lw_okq (⟨"VerseCommittee$Planner", "giveTo", "(III)V"⟩, 10) := ⟨⟨by decide +kernel, by decide +kernel⟩, List.mem_of_getElem? (i := 349) (by decide +kernel), List.mem_of_getElem? (i := 1403) (by decide +kernel), List.mem_of_getElem? (i := 1404) (by decide +kernel)⟩
theorem lw_p71 : lw_okq (⟨"VerseCommittee", "firstWrongByte", "(I)I"⟩, 14) := ⟨⟨by decide +kernel, by decide +kernel⟩, List.mem_of_getElem? (i := 17) (by decide +kernel), List.mem_of_getElem? (i := 1420) (by decide +kernel), List.mem_of_getElem? (i := 1421) (by decide +kernel)⟩
theorem lw_p72 : lw_okq (⟨"VerseCommittee$Rendering", "leftBits", "()I"⟩, 14) := ⟨⟨by decide +kernel, by decide +kernel⟩, List.mem_of_getElem? (i := 874) (by decide +kernel), List.mem_of_getElem? (i := 1432) (by decide +kernel), List.mem_of_getElem? (i := 1433) (by decide +kernel)⟩
theorem lw_p73 : lw_okq (⟨"VerseCommittee$Rendering", "tellSlot", "(I)I"⟩, 14) := ⟨⟨by decide +kernel, by decide +kernel⟩, List.mem_of_getElem? (i := 874) (by decide +kernel), List.mem_of_getElem? (i := 1436) (by decide +kernel), List.mem_of_getElem? (i := 1437) (by decide +kernel)⟩
theorem lw_p74 : lw_okq (⟨"VerseCommitteeModel", "push", "(I)V"⟩, 96) := ⟨⟨by decide +kernel, by decide +kernel⟩, List.mem_of_getElem? (i := 1471) (by decide +kernel), List.mem_of_getElem? (i := 1777) (by decide +kernel), List.mem_of_getElem? (i := 1778) (by decide +kernel)⟩
theorem lw_p75 : lw_okq (⟨"VerseCommitteeModel", "isVerse", "(I)Z"⟩, 96) := ⟨⟨by decide +kernel, by decide +kernel⟩, List.mem_of_getElem? (i := 1471) (by decide +kernel), List.mem_of_getElem? (i := 1789) (by decide +kernel), List.mem_of_getElem? (i := 1790) (by decide +kernel)⟩
theorem lw_p76 : lw_okq (⟨"VerseCommitteeModel", "isSmall", "(I)Z"⟩, 96) := ⟨⟨by decide +kernel, by decide +kernel⟩, List.mem_of_getElem? (i := 1471) (by decide +kernel), List.mem_of_getElem? (i := 1801) (by decide +kernel), List.mem_of_getElem? (i := 1802) (by decide +kernel)⟩
theorem lw_p77 : lw_okq (⟨"VerseCommitteeModel", "isOwn", "(II)Z"⟩, 96) := ⟨⟨by decide +kernel, by decide +kernel⟩, List.mem_of_getElem? (i := 1471) (by decide +kernel), List.mem_of_getElem? (i := 1805) (by decide +kernel), List.mem_of_getElem? (i := 1806) (by decide +kernel)⟩
theorem lw_p78 : lw_okq (⟨"VerseCommitteeModel", "spells", "(III)V"⟩, 96) := ⟨⟨by decide +kernel, by decide +kernel⟩, List.mem_of_getElem? (i := 1471) (by decide +kernel), List.mem_of_getElem? (i := 1809) (by decide +kernel), List.mem_of_getElem? (i := 1810) (by decide +kernel)⟩
theorem lw_p79 : lw_okq (⟨"VerseCommitteeModel", "isWord", "(I)Z"⟩, 96) := ⟨⟨by decide +kernel, by decide +kernel⟩, List.mem_of_getElem? (i := 1471) (by decide +kernel), List.mem_of_getElem? (i := 1817) (by decide +kernel), List.mem_of_getElem? (i := 1818) (by decide +kernel)⟩
def lw_privs_5 : List (MethodName × Nat) := [(⟨"VerseCommittee$Words", "formIn", "(II)I"⟩, 3), (⟨"VerseCommittee", "signOfAdded", "(III)I"⟩, 14), (⟨"VerseCommittee$Planner", "gatherBooks", "()V"⟩, 10), (⟨"VerseCommittee$Planner", "daysOfCentre", "()I"⟩, 10), (⟨"VerseCommittee$Planner", "give", "(II)V"⟩, 10), (⟨"VerseCommittee$Planner", "mayHave", "(II)Z"⟩, 10), (⟨"VerseCommittee$Planner", "giveTo", "(III)V"⟩, 10), (⟨"VerseCommittee", "firstWrongByte", "(I)I"⟩, 14), (⟨"VerseCommittee$Rendering", "leftBits", "()I"⟩, 14), (⟨"VerseCommittee$Rendering", "tellSlot", "(I)I"⟩, 14), (⟨"VerseCommitteeModel", "push", "(I)V"⟩, 96), (⟨"VerseCommitteeModel", "isVerse", "(I)Z"⟩, 96), (⟨"VerseCommitteeModel", "isSmall", "(I)Z"⟩, 96), (⟨"VerseCommitteeModel", "isOwn", "(II)Z"⟩, 96), (⟨"VerseCommitteeModel", "spells", "(III)V"⟩, 96), (⟨"VerseCommitteeModel", "isWord", "(I)Z"⟩, 96)]
theorem lw_r5 : ∀ q ∈ lw_privs_5, lw_okq q := List.forall_mem_cons.mpr ⟨lw_p64, List.forall_mem_cons.mpr ⟨lw_p65, List.forall_mem_cons.mpr ⟨lw_p66, List.forall_mem_cons.mpr ⟨lw_p67, List.forall_mem_cons.mpr ⟨lw_p68, List.forall_mem_cons.mpr ⟨lw_p69, List.forall_mem_cons.mpr ⟨lw_p70, List.forall_mem_cons.mpr ⟨lw_p71, List.forall_mem_cons.mpr ⟨lw_p72, List.forall_mem_cons.mpr ⟨lw_p73, List.forall_mem_cons.mpr ⟨lw_p74, List.forall_mem_cons.mpr ⟨lw_p75, List.forall_mem_cons.mpr ⟨lw_p76, List.forall_mem_cons.mpr ⟨lw_p77, List.forall_mem_cons.mpr ⟨lw_p78, List.forall_mem_cons.mpr ⟨lw_p79, fun _ h => absurd h List.not_mem_nil⟩⟩⟩⟩⟩⟩⟩⟩⟩⟩⟩⟩⟩⟩⟩⟩
theorem lw_p80 : lw_okq (⟨"VerseCommitteeModel", "syllablesOf", "(I)I"⟩, 96) := ⟨⟨by decide +kernel, by decide +kernel⟩, List.mem_of_getElem? (i := 1471) (by decide +kernel), List.mem_of_getElem? (i := 1825) (by decide +kernel), List.mem_of_getElem? (i := 1826) (by decide +kernel)⟩
theorem lw_p81 : lw_okq (⟨"VerseCommitteeModel", "isDay", "(I)Z"⟩, 96) := ⟨⟨by decide +kernel, by decide +kernel⟩, List.mem_of_getElem? (i := 1471) (by decide +kernel), List.mem_of_getElem? (i := 1848) (by decide +kernel), List.mem_of_getElem? (i := 1849) (by decide +kernel)⟩
theorem lw_p82 : lw_okq (⟨"VerseCommitteeModel", "isGood", "()Z"⟩, 96) := ⟨⟨by decide +kernel, by decide +kernel⟩, List.mem_of_getElem? (i := 1471) (by decide +kernel), List.mem_of_getElem? (i := 1852) (by decide +kernel), List.mem_of_getElem? (i := 1853) (by decide +kernel)⟩
theorem lw_p83 : lw_okq (⟨"VerseCommitteeModel", "clause", "()V"⟩, 96) := ⟨⟨by decide +kernel, by decide +kernel⟩, List.mem_of_getElem? (i := 1471) (by decide +kernel), List.mem_of_getElem? (i := 1856) (by decide +kernel), List.mem_of_getElem? (i := 1857) (by decide +kernel)⟩
theorem lw_p84 : lw_okq (⟨"VerseCommitteeModel", "here", "()I"⟩, 96) := ⟨⟨by decide +kernel, by decide +kernel⟩, List.mem_of_getElem? (i := 1471) (by decide +kernel), List.mem_of_getElem? (i := 1860) (by decide +kernel), List.mem_of_getElem? (i := 1861) (by decide +kernel)⟩
theorem lw_p85 : lw_okq (⟨"VerseCommitteeModel", "fails", "(II)V"⟩, 96) := ⟨⟨by decide +kernel, by decide +kernel⟩, List.mem_of_getElem? (i := 1471) (by decide +kernel), List.mem_of_getElem? (i := 1864) (by decide +kernel), List.mem_of_getElem? (i := 1865) (by decide +kernel)⟩
theorem lw_p86 : lw_okq (⟨"VerseCommitteeModel", "readsMust", "(I)V"⟩, 96) := ⟨⟨by decide +kernel, by decide +kernel⟩, List.mem_of_getElem? (i := 1471) (by decide +kernel), List.mem_of_getElem? (i := 1868) (by decide +kernel), List.mem_of_getElem? (i := 1869) (by decide +kernel)⟩
theorem lw_p87 : lw_okq (⟨"VerseCommitteeModel", "readsNumber", "(I)I"⟩, 96) := ⟨⟨by decide +kernel, by decide +kernel⟩, List.mem_of_getElem? (i := 1471) (by decide +kernel), List.mem_of_getElem? (i := 1872) (by decide +kernel), List.mem_of_getElem? (i := 1873) (by decide +kernel)⟩
theorem lw_p88 : lw_okq (⟨"VerseCommitteeModel", "seesDigit", "()Z"⟩, 96) := ⟨⟨by decide +kernel, by decide +kernel⟩, List.mem_of_getElem? (i := 1471) (by decide +kernel), List.mem_of_getElem? (i := 1876) (by decide +kernel), List.mem_of_getElem? (i := 1877) (by decide +kernel)⟩
theorem lw_p89 : lw_okq (⟨"VerseCommitteeModel", "must", "(I)V"⟩, 96) := ⟨⟨by decide +kernel, by decide +kernel⟩, List.mem_of_getElem? (i := 1471) (by decide +kernel), List.mem_of_getElem? (i := 1880) (by decide +kernel), List.mem_of_getElem? (i := 1881) (by decide +kernel)⟩
theorem lw_p90 : lw_okq (⟨"VerseCommitteeModel", "readsRank", "(I)V"⟩, 96) := ⟨⟨by decide +kernel, by decide +kernel⟩, List.mem_of_getElem? (i := 1471) (by decide +kernel), List.mem_of_getElem? (i := 1884) (by decide +kernel), List.mem_of_getElem? (i := 1885) (by decide +kernel)⟩
theorem lw_p91 : lw_okq (⟨"VerseCommitteeModel", "condition", "()V"⟩, 96) := ⟨⟨by decide +kernel, by decide +kernel⟩, List.mem_of_getElem? (i := 1471) (by decide +kernel), List.mem_of_getElem? (i := 1892) (by decide +kernel), List.mem_of_getElem? (i := 1893) (by decide +kernel)⟩
theorem lw_p92 : lw_okq (⟨"VerseCommitteeModel", "opens", "()V"⟩, 96) := ⟨⟨by decide +kernel, by decide +kernel⟩, List.mem_of_getElem? (i := 1471) (by decide +kernel), List.mem_of_getElem? (i := 1896) (by decide +kernel), List.mem_of_getElem? (i := 1897) (by decide +kernel)⟩
theorem lw_p93 : lw_okq (⟨"VerseCommitteeModel", "puts", "(I)V"⟩, 96) := ⟨⟨by decide +kernel, by decide +kernel⟩, List.mem_of_getElem? (i := 1471) (by decide +kernel), List.mem_of_getElem? (i := 1900) (by decide +kernel), List.mem_of_getElem? (i := 1901) (by decide +kernel)⟩
theorem lw_p94 : lw_okq (⟨"VerseCommitteeModel", "piece", "()V"⟩, 96) := ⟨⟨by decide +kernel, by decide +kernel⟩, List.mem_of_getElem? (i := 1471) (by decide +kernel), List.mem_of_getElem? (i := 1904) (by decide +kernel), List.mem_of_getElem? (i := 1905) (by decide +kernel)⟩
theorem lw_p95 : lw_okq (⟨"VerseCommitteeModel", "factor", "()V"⟩, 96) := ⟨⟨by decide +kernel, by decide +kernel⟩, List.mem_of_getElem? (i := 1471) (by decide +kernel), List.mem_of_getElem? (i := 1908) (by decide +kernel), List.mem_of_getElem? (i := 1909) (by decide +kernel)⟩
def lw_privs_6 : List (MethodName × Nat) := [(⟨"VerseCommitteeModel", "syllablesOf", "(I)I"⟩, 96), (⟨"VerseCommitteeModel", "isDay", "(I)Z"⟩, 96), (⟨"VerseCommitteeModel", "isGood", "()Z"⟩, 96), (⟨"VerseCommitteeModel", "clause", "()V"⟩, 96), (⟨"VerseCommitteeModel", "here", "()I"⟩, 96), (⟨"VerseCommitteeModel", "fails", "(II)V"⟩, 96), (⟨"VerseCommitteeModel", "readsMust", "(I)V"⟩, 96), (⟨"VerseCommitteeModel", "readsNumber", "(I)I"⟩, 96), (⟨"VerseCommitteeModel", "seesDigit", "()Z"⟩, 96), (⟨"VerseCommitteeModel", "must", "(I)V"⟩, 96), (⟨"VerseCommitteeModel", "readsRank", "(I)V"⟩, 96), (⟨"VerseCommitteeModel", "condition", "()V"⟩, 96), (⟨"VerseCommitteeModel", "opens", "()V"⟩, 96), (⟨"VerseCommitteeModel", "puts", "(I)V"⟩, 96), (⟨"VerseCommitteeModel", "piece", "()V"⟩, 96), (⟨"VerseCommitteeModel", "factor", "()V"⟩, 96)]
theorem lw_r6 : ∀ q ∈ lw_privs_6, lw_okq q := List.forall_mem_cons.mpr ⟨lw_p80, List.forall_mem_cons.mpr ⟨lw_p81, List.forall_mem_cons.mpr ⟨lw_p82, List.forall_mem_cons.mpr ⟨lw_p83, List.forall_mem_cons.mpr ⟨lw_p84, List.forall_mem_cons.mpr ⟨lw_p85, List.forall_mem_cons.mpr ⟨lw_p86, List.forall_mem_cons.mpr ⟨lw_p87, List.forall_mem_cons.mpr ⟨lw_p88, List.forall_mem_cons.mpr ⟨lw_p89, List.forall_mem_cons.mpr ⟨lw_p90, List.forall_mem_cons.mpr ⟨lw_p91, List.forall_mem_cons.mpr ⟨lw_p92, List.forall_mem_cons.mpr ⟨lw_p93, List.forall_mem_cons.mpr ⟨lw_p94, List.forall_mem_cons.mpr ⟨lw_p95, fun _ h => absurd h List.not_mem_nil⟩⟩⟩⟩⟩⟩⟩⟩⟩⟩⟩⟩⟩⟩⟩⟩
theorem lw_p96 : lw_okq (⟨"VerseCommitteeModel", "emit", "(II)V"⟩, 96) := ⟨⟨by decide +kernel, by decide +kernel⟩, List.mem_of_getElem? (i := 1471) (by decide +kernel), List.mem_of_getElem? (i := 1912) (by decide +kernel), List.mem_of_getElem? (i := 1913) (by decide +kernel)⟩
theorem lw_p97 : lw_okq (⟨"VerseCommitteeModel", "goesOn", "()Z"⟩, 96) := ⟨⟨by decide +kernel, by decide +kernel⟩, List.mem_of_getElem? (i := 1471) (by decide +kernel), List.mem_of_getElem? (i := 1919) (by decide +kernel), List.mem_of_getElem? (i := 1920) (by decide +kernel)⟩
theorem lw_p98 : lw_okq (⟨"VerseCommitteeModel", "sums", "(Z)V"⟩, 96) := ⟨⟨by decide +kernel, by decide +kernel⟩, List.mem_of_getElem? (i := 1471) (by decide +kernel), List.mem_of_getElem? (i := 1929) (by decide +kernel), List.mem_of_getElem? (i := 1930) (by decide +kernel)⟩
theorem lw_p99 : lw_okq (⟨"VerseCommitteeModel", "top", "()I"⟩, 96) := ⟨⟨by decide +kernel, by decide +kernel⟩, List.mem_of_getElem? (i := 1471) (by decide +kernel), List.mem_of_getElem? (i := 1933) (by decide +kernel), List.mem_of_getElem? (i := 1934) (by decide +kernel)⟩
theorem lw_p100 : lw_okq (⟨"VerseCommitteeModel", "ends", "()V"⟩, 96) := ⟨⟨by decide +kernel, by decide +kernel⟩, List.mem_of_getElem? (i := 1471) (by decide +kernel), List.mem_of_getElem? (i := 1940) (by decide +kernel), List.mem_of_getElem? (i := 1941) (by decide +kernel)⟩
theorem lw_p101 : lw_okq (⟨"VerseCommitteeModel", "goesBehind", "()Z"⟩, 96) := ⟨⟨by decide +kernel, by decide +kernel⟩, List.mem_of_getElem? (i := 1471) (by decide +kernel), List.mem_of_getElem? (i := 1944) (by decide +kernel), List.mem_of_getElem? (i := 1945) (by decide +kernel)⟩
theorem lw_p102 : lw_okq (⟨"VerseCommitteeModel", "joins", "(Z)V"⟩, 96) := ⟨⟨by decide +kernel, by decide +kernel⟩, List.mem_of_getElem? (i := 1471) (by decide +kernel), List.mem_of_getElem? (i := 1948) (by decide +kernel), List.mem_of_getElem? (i := 1949) (by decide +kernel)⟩
theorem lw_p103 : lw_okq (⟨"VerseCommitteeModel", "neededAt", "(III)I"⟩, 96) := ⟨⟨by decide +kernel, by decide +kernel⟩, List.mem_of_getElem? (i := 1471) (by decide +kernel), List.mem_of_getElem? (i := 1956) (by decide +kernel), List.mem_of_getElem? (i := 1957) (by decide +kernel)⟩
theorem lw_p104 : lw_okq (⟨"VerseCommitteeModel", "lastOf", "(IIII)I"⟩, 96) := ⟨⟨by decide +kernel, by decide +kernel⟩, List.mem_of_getElem? (i := 1471) (by decide +kernel), List.mem_of_getElem? (i := 1960) (by decide +kernel), List.mem_of_getElem? (i := 1961) (by decide +kernel)⟩
theorem lw_p105 : lw_okq (⟨"VerseCommitteeModel", "isInForce", "(III)Z"⟩, 96) := ⟨⟨by decide +kernel, by decide +kernel⟩, List.mem_of_getElem? (i := 1471) (by decide +kernel), List.mem_of_getElem? (i := 1964) (by decide +kernel), List.mem_of_getElem? (i := 1965) (by decide +kernel)⟩
theorem lw_p106 : lw_okq (⟨"VerseCommitteeModel", "companyOf", "(I)I"⟩, 96) := ⟨⟨by decide +kernel, by decide +kernel⟩, List.mem_of_getElem? (i := 1471) (by decide +kernel), List.mem_of_getElem? (i := 1968) (by decide +kernel), List.mem_of_getElem? (i := 1969) (by decide +kernel)⟩
theorem lw_p107 : lw_okq (⟨"VerseCommitteeModel", "daysOf", "(II)I"⟩, 96) := ⟨⟨by decide +kernel, by decide +kernel⟩, List.mem_of_getElem? (i := 1471) (by decide +kernel), List.mem_of_getElem? (i := 1972) (by decide +kernel), List.mem_of_getElem? (i := 1973) (by decide +kernel)⟩
theorem lw_p108 : lw_okq (⟨"VerseCommitteeModel", "copyOf", "(II)I"⟩, 96) := ⟨⟨by decide +kernel, by decide +kernel⟩, List.mem_of_getElem? (i := 1471) (by decide +kernel), List.mem_of_getElem? (i := 1976) (by decide +kernel), List.mem_of_getElem? (i := 1977) (by decide +kernel)⟩
theorem lw_p109 : lw_okq (⟨"VerseCommitteeModel", "tokensOf", "(II)I"⟩, 96) := ⟨⟨by decide +kernel, by decide +kernel⟩, List.mem_of_getElem? (i := 1471) (by decide +kernel), List.mem_of_getElem? (i := 1980) (by decide +kernel), List.mem_of_getElem? (i := 1981) (by decide +kernel)⟩
theorem lw_p110 : lw_okq (⟨"VerseCommitteeModel", "worth", "(III)I"⟩, 96) := ⟨⟨by decide +kernel, by decide +kernel⟩, List.mem_of_getElem? (i := 1471) (by decide +kernel), List.mem_of_getElem? (i := 1988) (by decide +kernel), List.mem_of_getElem? (i := 1989) (by decide +kernel)⟩
theorem lw_p111 : lw_okq (⟨"VerseCommitteeModel", "does", "(II)V"⟩, 96) := ⟨⟨by decide +kernel, by decide +kernel⟩, List.mem_of_getElem? (i := 1471) (by decide +kernel), List.mem_of_getElem? (i := 1992) (by decide +kernel), List.mem_of_getElem? (i := 1993) (by decide +kernel)⟩
def lw_privs_7 : List (MethodName × Nat) := [(⟨"VerseCommitteeModel", "emit", "(II)V"⟩, 96), (⟨"VerseCommitteeModel", "goesOn", "()Z"⟩, 96), (⟨"VerseCommitteeModel", "sums", "(Z)V"⟩, 96), (⟨"VerseCommitteeModel", "top", "()I"⟩, 96), (⟨"VerseCommitteeModel", "ends", "()V"⟩, 96), (⟨"VerseCommitteeModel", "goesBehind", "()Z"⟩, 96), (⟨"VerseCommitteeModel", "joins", "(Z)V"⟩, 96), (⟨"VerseCommitteeModel", "neededAt", "(III)I"⟩, 96), (⟨"VerseCommitteeModel", "lastOf", "(IIII)I"⟩, 96), (⟨"VerseCommitteeModel", "isInForce", "(III)Z"⟩, 96), (⟨"VerseCommitteeModel", "companyOf", "(I)I"⟩, 96), (⟨"VerseCommitteeModel", "daysOf", "(II)I"⟩, 96), (⟨"VerseCommitteeModel", "copyOf", "(II)I"⟩, 96), (⟨"VerseCommitteeModel", "tokensOf", "(II)I"⟩, 96), (⟨"VerseCommitteeModel", "worth", "(III)I"⟩, 96), (⟨"VerseCommitteeModel", "does", "(II)V"⟩, 96)]
theorem lw_r7 : ∀ q ∈ lw_privs_7, lw_okq q := List.forall_mem_cons.mpr ⟨lw_p96, List.forall_mem_cons.mpr ⟨lw_p97, List.forall_mem_cons.mpr ⟨lw_p98, List.forall_mem_cons.mpr ⟨lw_p99, List.forall_mem_cons.mpr ⟨lw_p100, List.forall_mem_cons.mpr ⟨lw_p101, List.forall_mem_cons.mpr ⟨lw_p102, List.forall_mem_cons.mpr ⟨lw_p103, List.forall_mem_cons.mpr ⟨lw_p104, List.forall_mem_cons.mpr ⟨lw_p105, List.forall_mem_cons.mpr ⟨lw_p106, List.forall_mem_cons.mpr ⟨lw_p107, List.forall_mem_cons.mpr ⟨lw_p108, List.forall_mem_cons.mpr ⟨lw_p109, List.forall_mem_cons.mpr ⟨lw_p110, List.forall_mem_cons.mpr ⟨lw_p111, fun _ h => absurd h List.not_mem_nil⟩⟩⟩⟩⟩⟩⟩⟩⟩⟩⟩⟩⟩⟩⟩⟩
theorem lw_p112 : lw_okq (⟨"VerseCommitteeModel", "valueOf", "(III)I"⟩, 96) := ⟨⟨by decide +kernel, by decide +kernel⟩, List.mem_of_getElem? (i := 1471) (by decide +kernel), List.mem_of_getElem? (i := 1999) (by decide +kernel), List.mem_of_getElem? (i := 2000) (by decide +kernel)⟩
theorem lw_p113 : lw_okq (⟨"VerseCommitteeModel", "fewest", "(II)I"⟩, 96) := ⟨⟨by decide +kernel, by decide +kernel⟩, List.mem_of_getElem? (i := 1471) (by decide +kernel), List.mem_of_getElem? (i := 2007) (by decide +kernel), List.mem_of_getElem? (i := 2008) (by decide +kernel)⟩
theorem lw_p114 : lw_okq (⟨"VerseCommitteeModel", "isOpen", "(I)Z"⟩, 96) := ⟨⟨by decide +kernel, by decide +kernel⟩, List.mem_of_getElem? (i := 1471) (by decide +kernel), List.mem_of_getElem? (i := 2019) (by decide +kernel), List.mem_of_getElem? (i := 2020) (by decide +kernel)⟩
theorem lw_p115 : lw_okq (⟨"VerseCommitteeModel", "isRendering", "(I)Z"⟩, 96) := ⟨⟨by decide +kernel, by decide +kernel⟩, List.mem_of_getElem? (i := 1471) (by decide +kernel), List.mem_of_getElem? (i := 2023) (by decide +kernel), List.mem_of_getElem? (i := 2024) (by decide +kernel)⟩
theorem lw_p116 : lw_okq (⟨"VerseCommitteeModel", "isOfStage", "(III)Z"⟩, 96) := ⟨⟨by decide +kernel, by decide +kernel⟩, List.mem_of_getElem? (i := 1471) (by decide +kernel), List.mem_of_getElem? (i := 2027) (by decide +kernel), List.mem_of_getElem? (i := 2028) (by decide +kernel)⟩
theorem lw_p117 : lw_okq (⟨"VerseCommitteeModel", "fixedOf", "(I)I"⟩, 96) := ⟨⟨by decide +kernel, by decide +kernel⟩, List.mem_of_getElem? (i := 1471) (by decide +kernel), List.mem_of_getElem? (i := 2035) (by decide +kernel), List.mem_of_getElem? (i := 2036) (by decide +kernel)⟩
theorem lw_p118 : lw_okq (⟨"VerseCommitteeModel", "tells", "(II)V"⟩, 96) := ⟨⟨by decide +kernel, by decide +kernel⟩, List.mem_of_getElem? (i := 1471) (by decide +kernel), List.mem_of_getElem? (i := 2039) (by decide +kernel), List.mem_of_getElem? (i := 2040) (by decide +kernel)⟩
theorem lw_p119 : lw_okq (⟨"VerseCommitteeModel", "goesBack", "(II)I"⟩, 96) := ⟨⟨by decide +kernel, by decide +kernel⟩, List.mem_of_getElem? (i := 1471) (by decide +kernel), List.mem_of_getElem? (i := 2047) (by decide +kernel), List.mem_of_getElem? (i := 2048) (by decide +kernel)⟩
theorem lw_p120 : lw_okq (⟨"VerseCommitteeModel", "goesWithout", "(II)Z"⟩, 96) := ⟨⟨by decide +kernel, by decide +kernel⟩, List.mem_of_getElem? (i := 1471) (by decide +kernel), List.mem_of_getElem? (i := 2051) (by decide +kernel), List.mem_of_getElem? (i := 2052) (by decide +kernel)⟩
theorem lw_p121 : lw_okq (⟨"VerseCommitteeModel", "unfixes", "(I)V"⟩, 96) := ⟨⟨by decide +kernel, by decide +kernel⟩, List.mem_of_getElem? (i := 1471) (by decide +kernel), List.mem_of_getElem? (i := 2055) (by decide +kernel), List.mem_of_getElem? (i := 2056) (by decide +kernel)⟩
theorem lw_p122 : lw_okq (⟨"VerseCommitteeModel", "fixedAt", "(II)I"⟩, 96) := ⟨⟨by decide +kernel, by decide +kernel⟩, List.mem_of_getElem? (i := 1471) (by decide +kernel), List.mem_of_getElem? (i := 2067) (by decide +kernel), List.mem_of_getElem? (i := 2068) (by decide +kernel)⟩
theorem lw_p123 : lw_okq (⟨"VerseCommitteeModel", "breachesOf", "(II)I"⟩, 96) := ⟨⟨by decide +kernel, by decide +kernel⟩, List.mem_of_getElem? (i := 1471) (by decide +kernel), List.mem_of_getElem? (i := 2075) (by decide +kernel), List.mem_of_getElem? (i := 2076) (by decide +kernel)⟩
theorem lw_p124 : lw_okq (⟨"VerseCommitteeModel", "isMeant", "(II)Z"⟩, 96) := ⟨⟨by decide +kernel, by decide +kernel⟩, List.mem_of_getElem? (i := 1471) (by decide +kernel), List.mem_of_getElem? (i := 2079) (by decide +kernel), List.mem_of_getElem? (i := 2080) (by decide +kernel)⟩
theorem lw_p125 : lw_okq (⟨"VerseCommitteeModel", "turnsBy", "(III)Z"⟩, 96) := ⟨⟨by decide +kernel, by decide +kernel⟩, List.mem_of_getElem? (i := 1471) (by decide +kernel), List.mem_of_getElem? (i := 2083) (by decide +kernel), List.mem_of_getElem? (i := 2084) (by decide +kernel)⟩
theorem lw_p126 : lw_okq (⟨"VerseCommitteeModel", "quarrelsOf", "(II)I"⟩, 96) := ⟨⟨by decide +kernel, by decide +kernel⟩, List.mem_of_getElem? (i := 1471) (by decide +kernel), List.mem_of_getElem? (i := 2095) (by decide +kernel), List.mem_of_getElem? (i := 2096) (by decide +kernel)⟩
theorem lw_p127 : lw_okq (⟨"VerseCommitteeModel", "isAsked", "(III)Z"⟩, 96) := ⟨⟨by decide +kernel, by decide +kernel⟩, List.mem_of_getElem? (i := 1471) (by decide +kernel), List.mem_of_getElem? (i := 2099) (by decide +kernel), List.mem_of_getElem? (i := 2100) (by decide +kernel)⟩
def lw_privs_8 : List (MethodName × Nat) := [(⟨"VerseCommitteeModel", "valueOf", "(III)I"⟩, 96), (⟨"VerseCommitteeModel", "fewest", "(II)I"⟩, 96), (⟨"VerseCommitteeModel", "isOpen", "(I)Z"⟩, 96), (⟨"VerseCommitteeModel", "isRendering", "(I)Z"⟩, 96), (⟨"VerseCommitteeModel", "isOfStage", "(III)Z"⟩, 96), (⟨"VerseCommitteeModel", "fixedOf", "(I)I"⟩, 96), (⟨"VerseCommitteeModel", "tells", "(II)V"⟩, 96), (⟨"VerseCommitteeModel", "goesBack", "(II)I"⟩, 96), (⟨"VerseCommitteeModel", "goesWithout", "(II)Z"⟩, 96), (⟨"VerseCommitteeModel", "unfixes", "(I)V"⟩, 96), (⟨"VerseCommitteeModel", "fixedAt", "(II)I"⟩, 96), (⟨"VerseCommitteeModel", "breachesOf", "(II)I"⟩, 96), (⟨"VerseCommitteeModel", "isMeant", "(II)Z"⟩, 96), (⟨"VerseCommitteeModel", "turnsBy", "(III)Z"⟩, 96), (⟨"VerseCommitteeModel", "quarrelsOf", "(II)I"⟩, 96), (⟨"VerseCommitteeModel", "isAsked", "(III)Z"⟩, 96)]
theorem lw_r8 : ∀ q ∈ lw_privs_8, lw_okq q := List.forall_mem_cons.mpr ⟨lw_p112, List.forall_mem_cons.mpr ⟨lw_p113, List.forall_mem_cons.mpr ⟨lw_p114, List.forall_mem_cons.mpr ⟨lw_p115, List.forall_mem_cons.mpr ⟨lw_p116, List.forall_mem_cons.mpr ⟨lw_p117, List.forall_mem_cons.mpr ⟨lw_p118, List.forall_mem_cons.mpr ⟨lw_p119, List.forall_mem_cons.mpr ⟨lw_p120, List.forall_mem_cons.mpr ⟨lw_p121, List.forall_mem_cons.mpr ⟨lw_p122, List.forall_mem_cons.mpr ⟨lw_p123, List.forall_mem_cons.mpr ⟨lw_p124, List.forall_mem_cons.mpr ⟨lw_p125, List.forall_mem_cons.mpr ⟨lw_p126, List.forall_mem_cons.mpr ⟨lw_p127, fun _ h => absurd h List.not_mem_nil⟩⟩⟩⟩⟩⟩⟩⟩⟩⟩⟩⟩⟩⟩⟩⟩
theorem lw_p128 : lw_okq (⟨"VerseCommitteeModel", "unlikes", "(I)I"⟩, 96) := ⟨⟨by decide +kernel, by decide +kernel⟩, List.mem_of_getElem? (i := 1471) (by decide +kernel), List.mem_of_getElem? (i := 2107) (by decide +kernel), List.mem_of_getElem? (i := 2108) (by decide +kernel)⟩
theorem lw_p129 : lw_okq (⟨"VerseCommitteeModel", "isUnlike", "(IIII)Z"⟩, 96) := ⟨⟨by decide +kernel, by decide +kernel⟩, List.mem_of_getElem? (i := 1471) (by decide +kernel), List.mem_of_getElem? (i := 2111) (by decide +kernel), List.mem_of_getElem? (i := 2112) (by decide +kernel)⟩
theorem lw_p130 : lw_okq (⟨"VerseCommitteeModel", "areTurnedAlike", "(IIII)Z"⟩, 96) := ⟨⟨by decide +kernel, by decide +kernel⟩, List.mem_of_getElem? (i := 1471) (by decide +kernel), List.mem_of_getElem? (i := 2115) (by decide +kernel), List.mem_of_getElem? (i := 2116) (by decide +kernel)⟩
theorem lw_p131 : lw_okq (⟨"VerseCommitteeModel", "wordOf", "(III)I"⟩, 96) := ⟨⟨by decide +kernel, by decide +kernel⟩, List.mem_of_getElem? (i := 1471) (by decide +kernel), List.mem_of_getElem? (i := 2119) (by decide +kernel), List.mem_of_getElem? (i := 2120) (by decide +kernel)⟩
theorem lw_p132 : lw_okq (⟨"VerseCommitteeModel", "mustBeAlike", "(II)Z"⟩, 96) := ⟨⟨by decide +kernel, by decide +kernel⟩, List.mem_of_getElem? (i := 1471) (by decide +kernel), List.mem_of_getElem? (i := 2123) (by decide +kernel), List.mem_of_getElem? (i := 2124) (by decide +kernel)⟩
theorem lw_p133 : lw_okq (⟨"VerseCommitteeModel", "placeOf", "(I)I"⟩, 96) := ⟨⟨by decide +kernel, by decide +kernel⟩, List.mem_of_getElem? (i := 1471) (by decide +kernel), List.mem_of_getElem? (i := 2131) (by decide +kernel), List.mem_of_getElem? (i := 2132) (by decide +kernel)⟩
theorem lw_p134 : lw_okq (⟨"VerseCommitteeModel", "isChoice", "(I)Z"⟩, 96) := ⟨⟨by decide +kernel, by decide +kernel⟩, List.mem_of_getElem? (i := 1471) (by decide +kernel), List.mem_of_getElem? (i := 2143) (by decide +kernel), List.mem_of_getElem? (i := 2144) (by decide +kernel)⟩
theorem lw_p135 : lw_okq (⟨"VerseCommitteeModel", "prices", "()V"⟩, 96) := ⟨⟨by decide +kernel, by decide +kernel⟩, List.mem_of_getElem? (i := 1471) (by decide +kernel), List.mem_of_getElem? (i := 2150) (by decide +kernel), List.mem_of_getElem? (i := 2151) (by decide +kernel)⟩
theorem lw_p136 : lw_okq (⟨"VerseCommitteeModel", "bars", "(II)V"⟩, 96) := ⟨⟨by decide +kernel, by decide +kernel⟩, List.mem_of_getElem? (i := 1471) (by decide +kernel), List.mem_of_getElem? (i := 2154) (by decide +kernel), List.mem_of_getElem? (i := 2155) (by decide +kernel)⟩
theorem lw_p137 : lw_okq (⟨"VerseCommitteeModel", "mayBe", "(I)Z"⟩, 96) := ⟨⟨by decide +kernel, by decide +kernel⟩, List.mem_of_getElem? (i := 1471) (by decide +kernel), List.mem_of_getElem? (i := 2158) (by decide +kernel), List.mem_of_getElem? (i := 2159) (by decide +kernel)⟩
theorem lw_p138 : lw_okq (⟨"VerseCommitteeModel", "costOf", "(I)I"⟩, 96) := ⟨⟨by decide +kernel, by decide +kernel⟩, List.mem_of_getElem? (i := 1471) (by decide +kernel), List.mem_of_getElem? (i := 2162) (by decide +kernel), List.mem_of_getElem? (i := 2163) (by decide +kernel)⟩
theorem lw_p139 : lw_okq (⟨"VerseCommitteeModel", "isAhead", "(IIII)Z"⟩, 96) := ⟨⟨by decide +kernel, by decide +kernel⟩, List.mem_of_getElem? (i := 1471) (by decide +kernel), List.mem_of_getElem? (i := 2170) (by decide +kernel), List.mem_of_getElem? (i := 2171) (by decide +kernel)⟩
theorem lw_p140 : lw_okq (⟨"VerseCommitteeModel", "isOff", "(I)Z"⟩, 96) := ⟨⟨by decide +kernel, by decide +kernel⟩, List.mem_of_getElem? (i := 1471) (by decide +kernel), List.mem_of_getElem? (i := 2178) (by decide +kernel), List.mem_of_getElem? (i := 2179) (by decide +kernel)⟩
theorem lw_p141 : lw_okq (⟨"VerseCommitteeModel", "prints", "(I)V"⟩, 96) := ⟨⟨by decide +kernel, by decide +kernel⟩, List.mem_of_getElem? (i := 1471) (by decide +kernel), List.mem_of_getElem? (i := 2201) (by decide +kernel), List.mem_of_getElem? (i := 2202) (by decide +kernel)⟩
theorem lw_p142 : lw_okq (⟨"VerseCommitteeModel", "lists", "()V"⟩, 96) := ⟨⟨by decide +kernel, by decide +kernel⟩, List.mem_of_getElem? (i := 1471) (by decide +kernel), List.mem_of_getElem? (i := 2209) (by decide +kernel), List.mem_of_getElem? (i := 2210) (by decide +kernel)⟩
theorem lw_p143 : lw_okq (⟨"VerseCommitteeModel", "bestRow", "()I"⟩, 96) := ⟨⟨by decide +kernel, by decide +kernel⟩, List.mem_of_getElem? (i := 1471) (by decide +kernel), List.mem_of_getElem? (i := 2213) (by decide +kernel), List.mem_of_getElem? (i := 2214) (by decide +kernel)⟩
def lw_privs_9 : List (MethodName × Nat) := [(⟨"VerseCommitteeModel", "unlikes", "(I)I"⟩, 96), (⟨"VerseCommitteeModel", "isUnlike", "(IIII)Z"⟩, 96), (⟨"VerseCommitteeModel", "areTurnedAlike", "(IIII)Z"⟩, 96), (⟨"VerseCommitteeModel", "wordOf", "(III)I"⟩, 96), (⟨"VerseCommitteeModel", "mustBeAlike", "(II)Z"⟩, 96), (⟨"VerseCommitteeModel", "placeOf", "(I)I"⟩, 96), (⟨"VerseCommitteeModel", "isChoice", "(I)Z"⟩, 96), (⟨"VerseCommitteeModel", "prices", "()V"⟩, 96), (⟨"VerseCommitteeModel", "bars", "(II)V"⟩, 96), (⟨"VerseCommitteeModel", "mayBe", "(I)Z"⟩, 96), (⟨"VerseCommitteeModel", "costOf", "(I)I"⟩, 96), (⟨"VerseCommitteeModel", "isAhead", "(IIII)Z"⟩, 96), (⟨"VerseCommitteeModel", "isOff", "(I)Z"⟩, 96), (⟨"VerseCommitteeModel", "prints", "(I)V"⟩, 96), (⟨"VerseCommitteeModel", "lists", "()V"⟩, 96), (⟨"VerseCommitteeModel", "bestRow", "()I"⟩, 96)]
theorem lw_r9 : ∀ q ∈ lw_privs_9, lw_okq q := List.forall_mem_cons.mpr ⟨lw_p128, List.forall_mem_cons.mpr ⟨lw_p129, List.forall_mem_cons.mpr ⟨lw_p130, List.forall_mem_cons.mpr ⟨lw_p131, List.forall_mem_cons.mpr ⟨lw_p132, List.forall_mem_cons.mpr ⟨lw_p133, List.forall_mem_cons.mpr ⟨lw_p134, List.forall_mem_cons.mpr ⟨lw_p135, List.forall_mem_cons.mpr ⟨lw_p136, List.forall_mem_cons.mpr ⟨lw_p137, List.forall_mem_cons.mpr ⟨lw_p138, List.forall_mem_cons.mpr ⟨lw_p139, List.forall_mem_cons.mpr ⟨lw_p140, List.forall_mem_cons.mpr ⟨lw_p141, List.forall_mem_cons.mpr ⟨lw_p142, List.forall_mem_cons.mpr ⟨lw_p143, fun _ h => absurd h List.not_mem_nil⟩⟩⟩⟩⟩⟩⟩⟩⟩⟩⟩⟩⟩⟩⟩⟩
theorem lw_p144 : lw_okq (⟨"VerseCommitteeModel", "rows", "()I"⟩, 96) := ⟨⟨by decide +kernel, by decide +kernel⟩, List.mem_of_getElem? (i := 1471) (by decide +kernel), List.mem_of_getElem? (i := 2217) (by decide +kernel), List.mem_of_getElem? (i := 2218) (by decide +kernel)⟩
theorem lw_p145 : lw_okq (⟨"VerseCommitteeModel", "daysBy", "(I)I"⟩, 96) := ⟨⟨by decide +kernel, by decide +kernel⟩, List.mem_of_getElem? (i := 1471) (by decide +kernel), List.mem_of_getElem? (i := 2221) (by decide +kernel), List.mem_of_getElem? (i := 2222) (by decide +kernel)⟩
theorem lw_p146 : lw_okq (⟨"VerseCommitteeModel", "fixedVerse", "(I)I"⟩, 96) := ⟨⟨by decide +kernel, by decide +kernel⟩, List.mem_of_getElem? (i := 1471) (by decide +kernel), List.mem_of_getElem? (i := 2236) (by decide +kernel), List.mem_of_getElem? (i := 2237) (by decide +kernel)⟩
theorem lw_p147 : lw_okq (⟨"VerseCommitteeModel", "leftOf", "(I)I"⟩, 96) := ⟨⟨by decide +kernel, by decide +kernel⟩, List.mem_of_getElem? (i := 1471) (by decide +kernel), List.mem_of_getElem? (i := 2244) (by decide +kernel), List.mem_of_getElem? (i := 2245) (by decide +kernel)⟩
def lw_privs_10 : List (MethodName × Nat) := [(⟨"VerseCommitteeModel", "rows", "()I"⟩, 96), (⟨"VerseCommitteeModel", "daysBy", "(I)I"⟩, 96), (⟨"VerseCommitteeModel", "fixedVerse", "(I)I"⟩, 96), (⟨"VerseCommitteeModel", "leftOf", "(I)I"⟩, 96)]
theorem lw_r10 : ∀ q ∈ lw_privs_10, lw_okq q := List.forall_mem_cons.mpr ⟨lw_p144, List.forall_mem_cons.mpr ⟨lw_p145, List.forall_mem_cons.mpr ⟨lw_p146, List.forall_mem_cons.mpr ⟨lw_p147, fun _ h => absurd h List.not_mem_nil⟩⟩⟩⟩
def lw_privs : List (MethodName × Nat) := lw_privs_1 ++ (lw_privs_2 ++ (lw_privs_3 ++ (lw_privs_4 ++ (lw_privs_5 ++ (lw_privs_6 ++ (lw_privs_7 ++ (lw_privs_8 ++ (lw_privs_9 ++ (lw_privs_10)))))))))
def lw_tbl : List Cond := k2_sels lw_privs ++ tables_1
theorem lw_privs_ok : ∀ q ∈ lw_privs, lw_okq q := by
  show ∀ q ∈ lw_privs_1 ++ (lw_privs_2 ++ (lw_privs_3 ++ (lw_privs_4 ++ (lw_privs_5 ++ (lw_privs_6 ++ (lw_privs_7 ++ (lw_privs_8 ++ (lw_privs_9 ++ (lw_privs_10))))))))), lw_okq q
  exact List.forall_mem_append.mpr ⟨lw_r1, List.forall_mem_append.mpr ⟨lw_r2, List.forall_mem_append.mpr ⟨lw_r3, List.forall_mem_append.mpr ⟨lw_r4, List.forall_mem_append.mpr ⟨lw_r5, List.forall_mem_append.mpr ⟨lw_r6, List.forall_mem_append.mpr ⟨lw_r7, List.forall_mem_append.mpr ⟨lw_r8, List.forall_mem_append.mpr ⟨lw_r9, lw_r10⟩⟩⟩⟩⟩⟩⟩⟩⟩
end
section
/-! names, fields and types of the classes, printed by program -/
def RX0 : String := "VerseCommittee$Choices"
def TX0 : u_T := fun k => match k with
  | 0 => ("VerseCommittee$Choices", "laws", "LVerseCommittee$Laws;", true)
  | 1 => ("VerseCommittee$Choices", "verses", "LVerseCommittee$Verses;", true)
  | 2 => ("VerseCommittee$Choices", "reckoner", "LVerseCommittee$Reckoner;", true)
  | 3 => ("VerseCommittee$Choices", "shelf", "LVerseCommittee$Shelf;", true)
  | 4 => ("VerseCommittee$Choices", "signs", "[I", true)
  | 5 => ("VerseCommittee$Choices", "sizes", "[I", true)
  | 6 => ("VerseCommittee$Choices", "options", "[I", true)
  | 7 => ("VerseCommittee$Choices", "parted", "[J", true)
  | 8 => ("VerseCommittee$Choices", "prices", "[I", true)
  | 9 => ("VerseCommittee$Choices", "barred", "[Z", true)
  | 10 => ("VerseCommittee$Choices", "row", "[I", true)
  | 11 => ("VerseCommittee$Choices", "size", "I", false)
  | 12 => ("VerseCommittee$Choices", "bestPrice", "I", false)
  | _ => ("VerseCommittee$Choices", "bestChoice", "I", false)
def tyX0 : Nat → FieldType := fun k => match k with
  | 0 => .object "VerseCommittee$Laws"
  | 1 => .object "VerseCommittee$Verses"
  | 2 => .object "VerseCommittee$Reckoner"
  | 3 => .object "VerseCommittee$Shelf"
  | 4 => .array .int
  | 5 => .array .int
  | 6 => .array .int
  | 7 => .array .long
  | 8 => .array .int
  | 9 => .array .boolean
  | 10 => .array .int
  | 11 => .int
  | 12 => .int
  | _ => .int
theorem nmX0 : ∀ a, a < 14 → ∀ b, b < 14 → a ≠ b → (TX0 a).2.1 ≠ (TX0 b).2.1 := by decide +kernel
theorem tyX0_ok : ∀ k, k < 14 → parseFieldDescriptor (TX0 k).2.2.1 = some (tyX0 k) := by decide +kernel
abbrev cX0_init : ByteArray := prog_2_method_1_code
def yX0_init : MethodName := ⟨RX0, "<init>", "(LVerseCommittee$Laws;LVerseCommittee$Verses;LVerseCommittee$Reckoner;LVerseCommittee$Shelf;)V"⟩
abbrev cX0_size : ByteArray := prog_2_method_2_code
def yX0_size : MethodName := ⟨RX0, "size", "()I"⟩
abbrev cX0_enter : ByteArray := prog_2_method_3_code
def yX0_enter : MethodName := ⟨RX0, "enter", "(II)Z"⟩
abbrev cX0_part : ByteArray := prog_2_method_4_code
def yX0_part : MethodName := ⟨RX0, "part", "(II)Z"⟩
abbrev cX0_priceOfRow : ByteArray := prog_2_method_5_code
def yX0_priceOfRow : MethodName := ⟨RX0, "priceOfRow", "()I"⟩
abbrev cX0_leastPriced : ByteArray := prog_2_method_6_code
def yX0_leastPriced : MethodName := ⟨RX0, "leastPriced", "()I"⟩
abbrev cX0_placeOf : ByteArray := prog_2_method_7_code
def yX0_placeOf : MethodName := ⟨RX0, "placeOf", "(I)I"⟩
abbrev cX0_isOption : ByteArray := prog_2_method_8_code
def yX0_isOption : MethodName := ⟨RX0, "isOption", "(II)Z"⟩
abbrev cX0_arePart : ByteArray := prog_2_method_9_code
def yX0_arePart : MethodName := ⟨RX0, "arePart", "(II)Z"⟩
abbrev cX0_readRow : ByteArray := prog_2_method_10_code
def yX0_readRow : MethodName := ⟨RX0, "readRow", "(I)Z"⟩
abbrev cX0_choiceOfRow : ByteArray := prog_2_method_11_code
def yX0_choiceOfRow : MethodName := ⟨RX0, "choiceOfRow", "()I"⟩
abbrev cX0_chosen : ByteArray := prog_2_method_12_code
def yX0_chosen : MethodName := ⟨RX0, "chosen", "(I)I"⟩
abbrev cX0_mayStand : ByteArray := prog_2_method_13_code
def yX0_mayStand : MethodName := ⟨RX0, "mayStand", "(I)Z"⟩
abbrev cX0_choose : ByteArray := prog_2_method_14_code
def yX0_choose : MethodName := ⟨RX0, "choose", "(II)V"⟩
abbrev cX0_chooseOption : ByteArray := prog_2_method_15_code
def yX0_chooseOption : MethodName := ⟨RX0, "chooseOption", "(III)V"⟩
abbrev cX0_reckon : ByteArray := prog_2_method_16_code
def yX0_reckon : MethodName := ⟨RX0, "reckon", "(I)V"⟩
abbrev cX0_addPrices : ByteArray := prog_2_method_17_code
def yX0_addPrices : MethodName := ⟨RX0, "addPrices", "(LVerseCommittee$Rendering;)V"⟩
abbrev cX0_barByClauses : ByteArray := prog_2_method_18_code
def yX0_barByClauses : MethodName := ⟨RX0, "barByClauses", "(I[II)V"⟩
abbrev cX0_barOthers : ByteArray := prog_2_method_19_code
def yX0_barOthers : MethodName := ⟨RX0, "barOthers", "(II)V"⟩
def RX1 : String := "VerseCommittee$Findings"
def TX1 : u_T := fun k => match k with
  | 0 => ("VerseCommittee$Findings", "laws", "LVerseCommittee$Laws;", true)
  | 1 => ("VerseCommittee$Findings", "verses", "LVerseCommittee$Verses;", true)
  | 2 => ("VerseCommittee$Findings", "reckoner", "LVerseCommittee$Reckoner;", true)
  | 3 => ("VerseCommittee$Findings", "shelf", "LVerseCommittee$Shelf;", true)
  | 4 => ("VerseCommittee$Findings", "found", "[I", true)
  | 5 => ("VerseCommittee$Findings", "held", "[I", true)
  | 6 => ("VerseCommittee$Findings", "placeVerse", "[I", true)
  | 7 => ("VerseCommittee$Findings", "placeToken", "[I", true)
  | 8 => ("VerseCommittee$Findings", "placeSigns", "[I", true)
  | 9 => ("VerseCommittee$Findings", "alike", "[J", true)
  | 10 => ("VerseCommittee$Findings", "heldSize", "I", false)
  | 11 => ("VerseCommittee$Findings", "places", "I", false)
  | _ => ("VerseCommittee$Findings", "seen", "I", false)
def tyX1 : Nat → FieldType := fun k => match k with
  | 0 => .object "VerseCommittee$Laws"
  | 1 => .object "VerseCommittee$Verses"
  | 2 => .object "VerseCommittee$Reckoner"
  | 3 => .object "VerseCommittee$Shelf"
  | 4 => .array .int
  | 5 => .array .int
  | 6 => .array .int
  | 7 => .array .int
  | 8 => .array .int
  | 9 => .array .long
  | 10 => .int
  | 11 => .int
  | _ => .int
theorem nmX1 : ∀ a, a < 13 → ∀ b, b < 13 → a ≠ b → (TX1 a).2.1 ≠ (TX1 b).2.1 := by decide +kernel
theorem tyX1_ok : ∀ k, k < 13 → parseFieldDescriptor (TX1 k).2.2.1 = some (tyX1 k) := by decide +kernel
abbrev cX1_init : ByteArray := prog_3_method_1_code
def yX1_init : MethodName := ⟨RX1, "<init>", "(LVerseCommittee$Laws;LVerseCommittee$Verses;LVerseCommittee$Reckoner;LVerseCommittee$Shelf;)V"⟩
abbrev cX1_seen : ByteArray := prog_3_method_2_code
def yX1_seen : MethodName := ⟨RX1, "seen", "()I"⟩
abbrev cX1_told : ByteArray := prog_3_method_3_code
def yX1_told : MethodName := ⟨RX1, "told", "(I)I"⟩
abbrev cX1_seekBreach : ByteArray := prog_3_method_4_code
def yX1_seekBreach : MethodName := ⟨RX1, "seekBreach", "(LVerseCommittee$Rendering;II)Z"⟩
abbrev cX1_seekQuarrel : ByteArray := prog_3_method_5_code
def yX1_seekQuarrel : MethodName := ⟨RX1, "seekQuarrel", "(III)Z"⟩
abbrev cX1_seekSecond : ByteArray := prog_3_method_6_code
def yX1_seekSecond : MethodName := ⟨RX1, "seekSecond", "(III)Z"⟩
abbrev cX1_tellClause : ByteArray := prog_3_method_7_code
def yX1_tellClause : MethodName := ⟨RX1, "tellClause", "(II)V"⟩
abbrev cX1_gatherHeld : ByteArray := prog_3_method_8_code
def yX1_gatherHeld : MethodName := ⟨RX1, "gatherHeld", "(II[I)V"⟩
abbrev cX1_seekUnlike : ByteArray := prog_3_method_9_code
def yX1_seekUnlike : MethodName := ⟨RX1, "seekUnlike", "(II)Z"⟩
abbrev cX1_isUnlike : ByteArray := prog_3_method_10_code
def yX1_isUnlike : MethodName := ⟨RX1, "isUnlike", "(II)Z"⟩
abbrev cX1_shareClause : ByteArray := prog_3_method_11_code
def yX1_shareClause : MethodName := ⟨RX1, "shareClause", "(II)Z"⟩
abbrev cX1_addPlaces : ByteArray := prog_3_method_12_code
def yX1_addPlaces : MethodName := ⟨RX1, "addPlaces", "(I[I)V"⟩
abbrev cX1_markAlike : ByteArray := prog_3_method_13_code
def yX1_markAlike : MethodName := ⟨RX1, "markAlike", "(II)Z"⟩
def RX2 : String := "VerseCommittee$Laws"
def TX2 : u_T := fun k => match k with
  | 0 => ("VerseCommittee$Laws", "texts", "[[I", true)
  | 1 => ("VerseCommittee$Laws", "companies", "[I", true)
  | 2 => ("VerseCommittee$Laws", "firstDays", "[I", true)
  | 3 => ("VerseCommittee$Laws", "lastDays", "[I", true)
  | 4 => ("VerseCommittee$Laws", "clauses", "[I", true)
  | 5 => ("VerseCommittee$Laws", "kinds", "[I", true)
  | 6 => ("VerseCommittee$Laws", "subjects", "[I", true)
  | 7 => ("VerseCommittee$Laws", "forms", "[I", true)
  | 8 => ("VerseCommittee$Laws", "values", "[I", true)
  | 9 => ("VerseCommittee$Laws", "starts", "[I", true)
  | _ => ("VerseCommittee$Laws", "size", "I", false)
def tyX2 : Nat → FieldType := fun k => match k with
  | 0 => .array (.array .int)
  | 1 => .array .int
  | 2 => .array .int
  | 3 => .array .int
  | 4 => .array .int
  | 5 => .array .int
  | 6 => .array .int
  | 7 => .array .int
  | 8 => .array .int
  | 9 => .array .int
  | _ => .int
theorem nmX2 : ∀ a, a < 11 → ∀ b, b < 11 → a ≠ b → (TX2 a).2.1 ≠ (TX2 b).2.1 := by decide +kernel
theorem tyX2_ok : ∀ k, k < 11 → parseFieldDescriptor (TX2 k).2.2.1 = some (tyX2 k) := by decide +kernel
abbrev cX2_init : ByteArray := prog_4_method_1_code
def yX2_init : MethodName := ⟨RX2, "<init>", "()V"⟩
abbrev cX2_size : ByteArray := prog_4_method_2_code
def yX2_size : MethodName := ⟨RX2, "size", "()I"⟩
abbrev cX2_isFull : ByteArray := prog_4_method_3_code
def yX2_isFull : MethodName := ⟨RX2, "isFull", "()Z"⟩
abbrev cX2_clauseOf : ByteArray := prog_4_method_4_code
def yX2_clauseOf : MethodName := ⟨RX2, "clauseOf", "(II)I"⟩
abbrev cX2_rulesOf : ByteArray := prog_4_method_5_code
def yX2_rulesOf : MethodName := ⟨RX2, "rulesOf", "(I)I"⟩
abbrev cX2_placeOf : ByteArray := prog_4_method_6_code
def yX2_placeOf : MethodName := ⟨RX2, "placeOf", "(I)I"⟩
abbrev cX2_clausesOf : ByteArray := prog_4_method_7_code
def yX2_clausesOf : MethodName := ⟨RX2, "clausesOf", "(I)I"⟩
abbrev cX2_hasClause : ByteArray := prog_4_method_8_code
def yX2_hasClause : MethodName := ⟨RX2, "hasClause", "(II)Z"⟩
abbrev cX2_putClause : ByteArray := prog_4_method_9_code
def yX2_putClause : MethodName := ⟨RX2, "putClause", "(III)V"⟩
abbrev cX2_putMeaning : ByteArray := prog_4_method_10_code
def yX2_putMeaning : MethodName := ⟨RX2, "putMeaning", "(IIII)V"⟩
abbrev cX2_putDays : ByteArray := prog_4_method_11_code
def yX2_putDays : MethodName := ⟨RX2, "putDays", "(III)V"⟩
abbrev cX2_enact : ByteArray := prog_4_method_12_code
def yX2_enact : MethodName := ⟨RX2, "enact", "([III)I"⟩
abbrev cX2_binds : ByteArray := prog_4_method_13_code
def yX2_binds : MethodName := ⟨RX2, "binds", "(III)Z"⟩
abbrev cX2_textOf : ByteArray := prog_4_method_14_code
def yX2_textOf : MethodName := ⟨RX2, "textOf", "(I)[I"⟩
abbrev cX2_isNumber : ByteArray := prog_4_method_15_code
def yX2_isNumber : MethodName := ⟨RX2, "isNumber", "(I)Z"⟩
abbrev cX2_isOf : ByteArray := prog_4_method_16_code
def yX2_isOf : MethodName := ⟨RX2, "isOf", "(II)Z"⟩
abbrev cX2_subject : ByteArray := prog_4_method_17_code
def yX2_subject : MethodName := ⟨RX2, "subject", "(I)I"⟩
abbrev cX2_value : ByteArray := prog_4_method_18_code
def yX2_value : MethodName := ⟨RX2, "value", "(I)I"⟩
abbrev cX2_start : ByteArray := prog_4_method_19_code
def yX2_start : MethodName := ⟨RX2, "start", "(I)I"⟩
abbrev cX2_speaksOf : ByteArray := prog_4_method_20_code
def yX2_speaksOf : MethodName := ⟨RX2, "speaksOf", "(II)Z"⟩
abbrev cX2_speaksOfAny : ByteArray := prog_4_method_21_code
def yX2_speaksOfAny : MethodName := ⟨RX2, "speaksOfAny", "(I[I)Z"⟩
def RX3 : String := "VerseCommittee$Parser"
def TX3 : u_T := fun k => match k with
  | 0 => ("VerseCommittee$Parser", "laws", "LVerseCommittee$Laws;", true)
  | 1 => ("VerseCommittee$Parser", "text", "[I", false)
  | 2 => ("VerseCommittee$Parser", "size", "I", false)
  | 3 => ("VerseCommittee$Parser", "at", "I", false)
  | 4 => ("VerseCommittee$Parser", "fault", "I", false)
  | 5 => ("VerseCommittee$Parser", "faultPlace", "I", false)
  | _ => ("VerseCommittee$Parser", "clausesRead", "I", false)
def tyX3 : Nat → FieldType := fun k => match k with
  | 0 => .object "VerseCommittee$Laws"
  | 1 => .array .int
  | 2 => .int
  | 3 => .int
  | 4 => .int
  | 5 => .int
  | _ => .int
theorem nmX3 : ∀ a, a < 7 → ∀ b, b < 7 → a ≠ b → (TX3 a).2.1 ≠ (TX3 b).2.1 := by decide +kernel
theorem tyX3_ok : ∀ k, k < 7 → parseFieldDescriptor (TX3 k).2.2.1 = some (tyX3 k) := by decide +kernel
abbrev cX3_init : ByteArray := prog_5_method_1_code
def yX3_init : MethodName := ⟨RX3, "<init>", "(LVerseCommittee$Laws;)V"⟩
abbrev cX3_clausesRead : ByteArray := prog_5_method_2_code
def yX3_clausesRead : MethodName := ⟨RX3, "clausesRead", "()I"⟩
abbrev cX3_read : ByteArray := prog_5_method_3_code
def yX3_read : MethodName := ⟨RX3, "read", "([II)I"⟩
abbrev cX3_sign : ByteArray := prog_5_method_4_code
def yX3_sign : MethodName := ⟨RX3, "sign", "()I"⟩
abbrev cX3_fail : ByteArray := prog_5_method_5_code
def yX3_fail : MethodName := ⟨RX3, "fail", "(II)Z"⟩
abbrev cX3_pass : ByteArray := prog_5_method_6_code
def yX3_pass : MethodName := ⟨RX3, "pass", "(I)Z"⟩
abbrev cX3_isBetween : ByteArray := prog_5_method_7_code
def yX3_isBetween : MethodName := ⟨RX3, "isBetween", "(III)Z"⟩
abbrev cX3_readClause : ByteArray := prog_5_method_8_code
def yX3_readClause : MethodName := ⟨RX3, "readClause", "(I)Z"⟩
abbrev cX3_readTurning : ByteArray := prog_5_method_9_code
def yX3_readTurning : MethodName := ⟨RX3, "readTurning", "(I)Z"⟩
abbrev cX3_readTail : ByteArray := prog_5_method_10_code
def yX3_readTail : MethodName := ⟨RX3, "readTail", "(II)Z"⟩
abbrev cX3_readRanks : ByteArray := prog_5_method_11_code
def yX3_readRanks : MethodName := ⟨RX3, "readRanks", "(I)Z"⟩
abbrev cX3_readHundredths : ByteArray := prog_5_method_12_code
def yX3_readHundredths : MethodName := ⟨RX3, "readHundredths", "(I)Z"⟩
abbrev cX3_readRest : ByteArray := prog_5_method_13_code
def yX3_readRest : MethodName := ⟨RX3, "readRest", "(I)Z"⟩
abbrev cX3_readNumber : ByteArray := prog_5_method_14_code
def yX3_readNumber : MethodName := ⟨RX3, "readNumber", "(I)I"⟩
abbrev cX3_readCondition : ByteArray := prog_5_method_15_code
def yX3_readCondition : MethodName := ⟨RX3, "readCondition", "(I)Z"⟩
abbrev cX3_readPart : ByteArray := prog_5_method_16_code
def yX3_readPart : MethodName := ⟨RX3, "readPart", "(I)Z"⟩
abbrev cX3_readPiece : ByteArray := prog_5_method_17_code
def yX3_readPiece : MethodName := ⟨RX3, "readPiece", "(I)Z"⟩
abbrev cX3_readOpening : ByteArray := prog_5_method_18_code
def yX3_readOpening : MethodName := ⟨RX3, "readOpening", "(I)Z"⟩
abbrev cX3_readComparison : ByteArray := prog_5_method_19_code
def yX3_readComparison : MethodName := ⟨RX3, "readComparison", "()Z"⟩
abbrev cX3_readSum : ByteArray := prog_5_method_20_code
def yX3_readSum : MethodName := ⟨RX3, "readSum", "(I)Z"⟩
abbrev cX3_readTerm : ByteArray := prog_5_method_21_code
def yX3_readTerm : MethodName := ⟨RX3, "readTerm", "(I)Z"⟩
abbrev cX3_isTermSign : ByteArray := prog_5_method_22_code
def yX3_isTermSign : MethodName := ⟨RX3, "isTermSign", "()Z"⟩
abbrev cX3_readFactor : ByteArray := prog_5_method_23_code
def yX3_readFactor : MethodName := ⟨RX3, "readFactor", "(I)Z"⟩
def RX4 : String := "VerseCommittee$People"
def TX4 : u_T := fun k => match k with
  | 0 => ("VerseCommittee$People", "books", "[I", true)
  | 1 => ("VerseCommittee$People", "rates", "[I", true)
  | 2 => ("VerseCommittee$People", "members", "[I", true)
  | 3 => ("VerseCommittee$People", "centreMembers", "I", false)
  | 4 => ("VerseCommittee$People", "centreRate", "I", false)
  | 5 => ("VerseCommittee$People", "companies", "I", false)
  | 6 => ("VerseCommittee$People", "scholars", "I", false)
  | _ => ("VerseCommittee$People", "voided", "I", false)
def tyX4 : Nat → FieldType := fun k => match k with
  | 0 => .array .int
  | 1 => .array .int
  | 2 => .array .int
  | 3 => .int
  | 4 => .int
  | 5 => .int
  | 6 => .int
  | _ => .int
theorem nmX4 : ∀ a, a < 8 → ∀ b, b < 8 → a ≠ b → (TX4 a).2.1 ≠ (TX4 b).2.1 := by decide +kernel
theorem tyX4_ok : ∀ k, k < 8 → parseFieldDescriptor (TX4 k).2.2.1 = some (tyX4 k) := by decide +kernel
abbrev cX4_init : ByteArray := prog_6_method_1_code
def yX4_init : MethodName := ⟨RX4, "<init>", "()V"⟩
abbrev cX4_companies : ByteArray := prog_6_method_2_code
def yX4_companies : MethodName := ⟨RX4, "companies", "()I"⟩
abbrev cX4_scholars : ByteArray := prog_6_method_3_code
def yX4_scholars : MethodName := ⟨RX4, "scholars", "()I"⟩
abbrev cX4_hasCompany : ByteArray := prog_6_method_4_code
def yX4_hasCompany : MethodName := ⟨RX4, "hasCompany", "(I)Z"⟩
abbrev cX4_hasScholar : ByteArray := prog_6_method_5_code
def yX4_hasScholar : MethodName := ⟨RX4, "hasScholar", "(I)Z"⟩
abbrev cX4_enterCompany : ByteArray := prog_6_method_6_code
def yX4_enterCompany : MethodName := ⟨RX4, "enterCompany", "(II)I"⟩
abbrev cX4_enterScholar : ByteArray := prog_6_method_7_code
def yX4_enterScholar : MethodName := ⟨RX4, "enterScholar", "(IZ)I"⟩
abbrev cX4_setCentreRate : ByteArray := prog_6_method_8_code
def yX4_setCentreRate : MethodName := ⟨RX4, "setCentreRate", "(I)V"⟩
abbrev cX4_centreRate : ByteArray := prog_6_method_9_code
def yX4_centreRate : MethodName := ⟨RX4, "centreRate", "()I"⟩
abbrev cX4_isVoid : ByteArray := prog_6_method_10_code
def yX4_isVoid : MethodName := ⟨RX4, "isVoid", "(I)Z"⟩
abbrev cX4_makeVoid : ByteArray := prog_6_method_11_code
def yX4_makeVoid : MethodName := ⟨RX4, "makeVoid", "(I)V"⟩
abbrev cX4_hasBook : ByteArray := prog_6_method_12_code
def yX4_hasBook : MethodName := ⟨RX4, "hasBook", "(II)Z"⟩
abbrev cX4_rateOf : ByteArray := prog_6_method_13_code
def yX4_rateOf : MethodName := ⟨RX4, "rateOf", "(I)I"⟩
abbrev cX4_companyOf : ByteArray := prog_6_method_14_code
def yX4_companyOf : MethodName := ⟨RX4, "companyOf", "(I)I"⟩
abbrev cX4_voters : ByteArray := prog_6_method_15_code
def yX4_voters : MethodName := ⟨RX4, "voters", "(II)I"⟩
def RX5 : String := "VerseCommittee$Planner"
def TX5 : u_T := fun k => match k with
  | 0 => ("VerseCommittee$Planner", "verses", "LVerseCommittee$Verses;", true)
  | 1 => ("VerseCommittee$Planner", "people", "LVerseCommittee$People;", true)
  | 2 => ("VerseCommittee$Planner", "shelf", "LVerseCommittee$Shelf;", true)
  | 3 => ("VerseCommittee$Planner", "open", "[I", true)
  | 4 => ("VerseCommittee$Planner", "books", "[I", true)
  | 5 => ("VerseCommittee$Planner", "loads", "[I", true)
  | 6 => ("VerseCommittee$Planner", "row", "[I", true)
  | 7 => ("VerseCommittee$Planner", "best", "[I", true)
  | 8 => ("VerseCommittee$Planner", "size", "I", false)
  | _ => ("VerseCommittee$Planner", "bestDays", "I", false)
def tyX5 : Nat → FieldType := fun k => match k with
  | 0 => .object "VerseCommittee$Verses"
  | 1 => .object "VerseCommittee$People"
  | 2 => .object "VerseCommittee$Shelf"
  | 3 => .array .int
  | 4 => .array .int
  | 5 => .array .int
  | 6 => .array .int
  | 7 => .array .int
  | 8 => .int
  | _ => .int
theorem nmX5 : ∀ a, a < 10 → ∀ b, b < 10 → a ≠ b → (TX5 a).2.1 ≠ (TX5 b).2.1 := by decide +kernel
theorem tyX5_ok : ∀ k, k < 10 → parseFieldDescriptor (TX5 k).2.2.1 = some (tyX5 k) := by decide +kernel
abbrev cX5_init : ByteArray := prog_7_method_1_code
def yX5_init : MethodName := ⟨RX5, "<init>", "(LVerseCommittee$Verses;LVerseCommittee$People;LVerseCommittee$Shelf;)V"⟩
abbrev cX5_answer : ByteArray := prog_7_method_2_code
def yX5_answer : MethodName := ⟨RX5, "answer", "(I)I"⟩
abbrev cX5_daysOf : ByteArray := prog_7_method_3_code
def yX5_daysOf : MethodName := ⟨RX5, "daysOf", "(I)I"⟩
abbrev cX5_gatherBooks : ByteArray := prog_7_method_4_code
def yX5_gatherBooks : MethodName := ⟨RX5, "gatherBooks", "()V"⟩
abbrev cX5_daysOfCentre : ByteArray := prog_7_method_5_code
def yX5_daysOfCentre : MethodName := ⟨RX5, "daysOfCentre", "()I"⟩
abbrev cX5_through : ByteArray := prog_7_method_6_code
def yX5_through : MethodName := ⟨RX5, "through", "(II)I"⟩
abbrev cX5_mayHave : ByteArray := prog_7_method_7_code
def yX5_mayHave : MethodName := ⟨RX5, "mayHave", "(II)Z"⟩
abbrev cX5_give : ByteArray := prog_7_method_8_code
def yX5_give : MethodName := ⟨RX5, "give", "(II)V"⟩
abbrev cX5_giveTo : ByteArray := prog_7_method_9_code
def yX5_giveTo : MethodName := ⟨RX5, "giveTo", "(III)V"⟩
def RX6 : String := "VerseCommittee$Reckoner"
def TX6 : u_T := fun k => match k with
  | 0 => ("VerseCommittee$Reckoner", "laws", "LVerseCommittee$Laws;", true)
  | 1 => ("VerseCommittee$Reckoner", "verses", "LVerseCommittee$Verses;", true)
  | 2 => ("VerseCommittee$Reckoner", "people", "LVerseCommittee$People;", true)
  | 3 => ("VerseCommittee$Reckoner", "verse", "I", false)
  | 4 => ("VerseCommittee$Reckoner", "day", "I", false)
  | 5 => ("VerseCommittee$Reckoner", "company", "I", false)
  | 6 => ("VerseCommittee$Reckoner", "force", "I", false)
  | 7 => ("VerseCommittee$Reckoner", "copy", "I", false)
  | 8 => ("VerseCommittee$Reckoner", "tokens", "I", false)
  | 9 => ("VerseCommittee$Reckoner", "book", "I", false)
  | 10 => ("VerseCommittee$Reckoner", "measure", "I", false)
  | 11 => ("VerseCommittee$Reckoner", "text", "[I", false)
  | 12 => ("VerseCommittee$Reckoner", "at", "I", false)
  | _ => ("VerseCommittee$Reckoner", "refused", "Z", false)
def tyX6 : Nat → FieldType := fun k => match k with
  | 0 => .object "VerseCommittee$Laws"
  | 1 => .object "VerseCommittee$Verses"
  | 2 => .object "VerseCommittee$People"
  | 3 => .int
  | 4 => .int
  | 5 => .int
  | 6 => .int
  | 7 => .int
  | 8 => .int
  | 9 => .int
  | 10 => .int
  | 11 => .array .int
  | 12 => .int
  | _ => .boolean
theorem nmX6 : ∀ a, a < 14 → ∀ b, b < 14 → a ≠ b → (TX6 a).2.1 ≠ (TX6 b).2.1 := by decide +kernel
theorem tyX6_ok : ∀ k, k < 14 → parseFieldDescriptor (TX6 k).2.2.1 = some (tyX6 k) := by decide +kernel
abbrev cX6_init : ByteArray := prog_8_method_1_code
def yX6_init : MethodName := ⟨RX6, "<init>", "(LVerseCommittee$Laws;LVerseCommittee$Verses;LVerseCommittee$People;)V"⟩
abbrev cX6_aim : ByteArray := prog_8_method_2_code
def yX6_aim : MethodName := ⟨RX6, "aim", "(II)V"⟩
abbrev cX6_isInForce : ByteArray := prog_8_method_3_code
def yX6_isInForce : MethodName := ⟨RX6, "isInForce", "(I)Z"⟩
abbrev cX6_companyThere : ByteArray := prog_8_method_4_code
def yX6_companyThere : MethodName := ⟨RX6, "companyThere", "()I"⟩
abbrev cX6_firstCopy : ByteArray := prog_8_method_5_code
def yX6_firstCopy : MethodName := ⟨RX6, "firstCopy", "()I"⟩
abbrev cX6_sourceSize : ByteArray := prog_8_method_6_code
def yX6_sourceSize : MethodName := ⟨RX6, "sourceSize", "()I"⟩
abbrev cX6_hundredths : ByteArray := prog_8_method_7_code
def yX6_hundredths : MethodName := ⟨RX6, "hundredths", "(I)I"⟩
abbrev cX6_restDays : ByteArray := prog_8_method_8_code
def yX6_restDays : MethodName := ⟨RX6, "restDays", "()I"⟩
abbrev cX6_verdict : ByteArray := prog_8_method_9_code
def yX6_verdict : MethodName := ⟨RX6, "verdict", "(I)I"⟩
abbrev cX6_findCopy : ByteArray := prog_8_method_10_code
def yX6_findCopy : MethodName := ⟨RX6, "findCopy", "()V"⟩
abbrev cX6_lastInForce : ByteArray := prog_8_method_11_code
def yX6_lastInForce : MethodName := ⟨RX6, "lastInForce", "(II)I"⟩
abbrev cX6_sign : ByteArray := prog_8_method_12_code
def yX6_sign : MethodName := ⟨RX6, "sign", "()I"⟩
abbrev cX6_reckonCondition : ByteArray := prog_8_method_13_code
def yX6_reckonCondition : MethodName := ⟨RX6, "reckonCondition", "(ZI)Z"⟩
abbrev cX6_reckonPart : ByteArray := prog_8_method_14_code
def yX6_reckonPart : MethodName := ⟨RX6, "reckonPart", "(ZI)Z"⟩
abbrev cX6_reckonPiece : ByteArray := prog_8_method_15_code
def yX6_reckonPiece : MethodName := ⟨RX6, "reckonPiece", "(ZI)Z"⟩
abbrev cX6_reckonSum : ByteArray := prog_8_method_16_code
def yX6_reckonSum : MethodName := ⟨RX6, "reckonSum", "(ZI)I"⟩
abbrev cX6_reckonTerm : ByteArray := prog_8_method_17_code
def yX6_reckonTerm : MethodName := ⟨RX6, "reckonTerm", "(ZI)I"⟩
abbrev cX6_isTermSign : ByteArray := prog_8_method_18_code
def yX6_isTermSign : MethodName := ⟨RX6, "isTermSign", "(I)Z"⟩
abbrev cX6_reckonFactor : ByteArray := prog_8_method_19_code
def yX6_reckonFactor : MethodName := ⟨RX6, "reckonFactor", "(ZI)I"⟩
abbrev cX6_isDigit : ByteArray := prog_8_method_20_code
def yX6_isDigit : MethodName := ⟨RX6, "isDigit", "(I)Z"⟩
abbrev cX6_numberThere : ByteArray := prog_8_method_21_code
def yX6_numberThere : MethodName := ⟨RX6, "numberThere", "()I"⟩
abbrev cX6_letterValue : ByteArray := prog_8_method_22_code
def yX6_letterValue : MethodName := ⟨RX6, "letterValue", "(I)I"⟩
def RX7 : String := "VerseCommittee$Rendering"
def TX7 : u_T := fun k => match k with
  | 0 => ("VerseCommittee$Rendering", "scholar", "I", true)
  | 1 => ("VerseCommittee$Rendering", "verse", "I", true)
  | 2 => ("VerseCommittee$Rendering", "copy", "I", true)
  | 3 => ("VerseCommittee$Rendering", "tokens", "[I", true)
  | 4 => ("VerseCommittee$Rendering", "words", "[I", false)
  | 5 => ("VerseCommittee$Rendering", "turns", "[I", false)
  | 6 => ("VerseCommittee$Rendering", "madeDay", "I", true)
  | 7 => ("VerseCommittee$Rendering", "state", "I", false)
  | 8 => ("VerseCommittee$Rendering", "fixedDay", "I", false)
  | 9 => ("VerseCommittee$Rendering", "cast", "[I", true)
  | 10 => ("VerseCommittee$Rendering", "yes", "[I", true)
  | 11 => ("VerseCommittee$Rendering", "keptYes", "[I", true)
  | 12 => ("VerseCommittee$Rendering", "keptAll", "[I", true)
  | _ => ("VerseCommittee$Rendering", "keptNeed", "[I", true)
def tyX7 : Nat → FieldType := fun k => match k with
  | 0 => .int
  | 1 => .int
  | 2 => .int
  | 3 => .array .int
  | 4 => .array .int
  | 5 => .array .int
  | 6 => .int
  | 7 => .int
  | 8 => .int
  | 9 => .array .int
  | 10 => .array .int
  | 11 => .array .int
  | 12 => .array .int
  | _ => .array .int
theorem nmX7 : ∀ a, a < 14 → ∀ b, b < 14 → a ≠ b → (TX7 a).2.1 ≠ (TX7 b).2.1 := by decide +kernel
theorem tyX7_ok : ∀ k, k < 14 → parseFieldDescriptor (TX7 k).2.2.1 = some (tyX7 k) := by decide +kernel
abbrev cX7_init : ByteArray := prog_9_method_1_code
def yX7_init : MethodName := ⟨RX7, "<init>", "(III[II)V"⟩
abbrev cX7_fill : ByteArray := prog_9_method_2_code
def yX7_fill : MethodName := ⟨RX7, "fill", "([II)V"⟩
abbrev cX7_verseNumber : ByteArray := prog_9_method_3_code
def yX7_verseNumber : MethodName := ⟨RX7, "verseNumber", "()I"⟩
abbrev cX7_stateNumber : ByteArray := prog_9_method_4_code
def yX7_stateNumber : MethodName := ⟨RX7, "stateNumber", "()I"⟩
abbrev cX7_tokenRow : ByteArray := prog_9_method_5_code
def yX7_tokenRow : MethodName := ⟨RX7, "tokenRow", "()[I"⟩
abbrev cX7_wordRow : ByteArray := prog_9_method_6_code
def yX7_wordRow : MethodName := ⟨RX7, "wordRow", "()[I"⟩
abbrev cX7_slots : ByteArray := prog_9_method_7_code
def yX7_slots : MethodName := ⟨RX7, "slots", "()I"⟩
abbrev cX7_wordAt : ByteArray := prog_9_method_8_code
def yX7_wordAt : MethodName := ⟨RX7, "wordAt", "(I)I"⟩
abbrev cX7_turnAt : ByteArray := prog_9_method_9_code
def yX7_turnAt : MethodName := ⟨RX7, "turnAt", "(I)I"⟩
abbrev cX7_daysSinceFixed : ByteArray := prog_9_method_10_code
def yX7_daysSinceFixed : MethodName := ⟨RX7, "daysSinceFixed", "(I)I"⟩
abbrev cX7_isUnderVote : ByteArray := prog_9_method_11_code
def yX7_isUnderVote : MethodName := ⟨RX7, "isUnderVote", "()Z"⟩
abbrev cX7_stage : ByteArray := prog_9_method_12_code
def yX7_stage : MethodName := ⟨RX7, "stage", "()I"⟩
abbrev cX7_putVote : ByteArray := prog_9_method_13_code
def yX7_putVote : MethodName := ⟨RX7, "putVote", "(IZ)V"⟩
abbrev cX7_wouldGoOn : ByteArray := prog_9_method_14_code
def yX7_wouldGoOn : MethodName := ⟨RX7, "wouldGoOn", "(II)Z"⟩
abbrev cX7_keepVote : ByteArray := prog_9_method_15_code
def yX7_keepVote : MethodName := ⟨RX7, "keepVote", "(II)V"⟩
abbrev cX7_enterState : ByteArray := prog_9_method_16_code
def yX7_enterState : MethodName := ⟨RX7, "enterState", "(I)V"⟩
abbrev cX7_becomeFixed : ByteArray := prog_9_method_17_code
def yX7_becomeFixed : MethodName := ⟨RX7, "becomeFixed", "(I)V"⟩
abbrev cX7_takeOut : ByteArray := prog_9_method_18_code
def yX7_takeOut : MethodName := ⟨RX7, "takeOut", "(I)I"⟩
abbrev cX7_goBack : ByteArray := prog_9_method_19_code
def yX7_goBack : MethodName := ⟨RX7, "goBack", "(I)V"⟩
abbrev cX7_standsWithout : ByteArray := prog_9_method_20_code
def yX7_standsWithout : MethodName := ⟨RX7, "standsWithout", "(II)Z"⟩
abbrev cX7_isEnough : ByteArray := prog_9_method_21_code
def yX7_isEnough : MethodName := ⟨RX7, "isEnough", "(III)Z"⟩
abbrev cX7_isTurnedByOnly : ByteArray := prog_9_method_22_code
def yX7_isTurnedByOnly : MethodName := ⟨RX7, "isTurnedByOnly", "(II)Z"⟩
abbrev cX7_turnsLike : ByteArray := prog_9_method_23_code
def yX7_turnsLike : MethodName := ⟨RX7, "turnsLike", "(ILVerseCommittee$Rendering;I)Z"⟩
abbrev cX7_nextSlot : ByteArray := prog_9_method_24_code
def yX7_nextSlot : MethodName := ⟨RX7, "nextSlot", "(II)I"⟩
abbrev cX7_leftBits : ByteArray := prog_9_method_25_code
def yX7_leftBits : MethodName := ⟨RX7, "leftBits", "()I"⟩
abbrev cX7_tell : ByteArray := prog_9_method_26_code
def yX7_tell : MethodName := ⟨RX7, "tell", "(I)I"⟩
abbrev cX7_tellSlot : ByteArray := prog_9_method_27_code
def yX7_tellSlot : MethodName := ⟨RX7, "tellSlot", "(I)I"⟩
def RX8 : String := "VerseCommittee$Shelf"
def TX8 : u_T := fun k => match k with
  | 0 => ("VerseCommittee$Shelf", "rows", "[LVerseCommittee$Rendering;", true)
  | 1 => ("VerseCommittee$Shelf", "fixedOf", "[I", true)
  | 2 => ("VerseCommittee$Shelf", "turnVerse", "[I", true)
  | 3 => ("VerseCommittee$Shelf", "turnDay", "[I", true)
  | 4 => ("VerseCommittee$Shelf", "turnRendering", "[I", true)
  | 5 => ("VerseCommittee$Shelf", "size", "I", false)
  | _ => ("VerseCommittee$Shelf", "turns", "I", false)
def tyX8 : Nat → FieldType := fun k => match k with
  | 0 => .array (.object "VerseCommittee$Rendering")
  | 1 => .array .int
  | 2 => .array .int
  | 3 => .array .int
  | 4 => .array .int
  | 5 => .int
  | _ => .int
theorem nmX8 : ∀ a, a < 7 → ∀ b, b < 7 → a ≠ b → (TX8 a).2.1 ≠ (TX8 b).2.1 := by decide +kernel
theorem tyX8_ok : ∀ k, k < 7 → parseFieldDescriptor (TX8 k).2.2.1 = some (tyX8 k) := by decide +kernel
abbrev cX8_init : ByteArray := prog_10_method_1_code
def yX8_init : MethodName := ⟨RX8, "<init>", "()V"⟩
abbrev cX8_size : ByteArray := prog_10_method_2_code
def yX8_size : MethodName := ⟨RX8, "size", "()I"⟩
abbrev cX8_isFull : ByteArray := prog_10_method_3_code
def yX8_isFull : MethodName := ⟨RX8, "isFull", "()Z"⟩
abbrev cX8_enter : ByteArray := prog_10_method_4_code
def yX8_enter : MethodName := ⟨RX8, "enter", "(LVerseCommittee$Rendering;)I"⟩
abbrev cX8_at : ByteArray := prog_10_method_5_code
def yX8_at : MethodName := ⟨RX8, "at", "(I)LVerseCommittee$Rendering;"⟩
abbrev cX8_fixedNumber : ByteArray := prog_10_method_6_code
def yX8_fixedNumber : MethodName := ⟨RX8, "fixedNumber", "(I)I"⟩
abbrev cX8_fixedAt : ByteArray := prog_10_method_7_code
def yX8_fixedAt : MethodName := ⟨RX8, "fixedAt", "(I)LVerseCommittee$Rendering;"⟩
abbrev cX8_fixedThen : ByteArray := prog_10_method_8_code
def yX8_fixedThen : MethodName := ⟨RX8, "fixedThen", "(II)I"⟩
abbrev cX8_fixedVerses : ByteArray := prog_10_method_9_code
def yX8_fixedVerses : MethodName := ⟨RX8, "fixedVerses", "()I"⟩
abbrev cX8_inState : ByteArray := prog_10_method_10_code
def yX8_inState : MethodName := ⟨RX8, "inState", "(I)I"⟩
abbrev cX8_mayBeFixed : ByteArray := prog_10_method_11_code
def yX8_mayBeFixed : MethodName := ⟨RX8, "mayBeFixed", "(III)Z"⟩
abbrev cX8_fix : ByteArray := prog_10_method_12_code
def yX8_fix : MethodName := ⟨RX8, "fix", "(ILVerseCommittee$Rendering;I)V"⟩
abbrev cX8_withdraw : ByteArray := prog_10_method_13_code
def yX8_withdraw : MethodName := ⟨RX8, "withdraw", "(II)I"⟩
abbrev cX8_setFixed : ByteArray := prog_10_method_14_code
def yX8_setFixed : MethodName := ⟨RX8, "setFixed", "(III)V"⟩
def RX9 : String := "VerseCommittee$Verses"
def TX9 : u_T := fun k => match k with
  | 0 => ("VerseCommittee$Verses", "books", "[I", true)
  | 1 => ("VerseCommittee$Verses", "measures", "[I", true)
  | 2 => ("VerseCommittee$Verses", "rows", "[[I", true)
  | 3 => ("VerseCommittee$Verses", "told", "[I", true)
  | 4 => ("VerseCommittee$Verses", "wrong", "[I", true)
  | _ => ("VerseCommittee$Verses", "size", "I", false)
def tyX9 : Nat → FieldType := fun k => match k with
  | 0 => .array .int
  | 1 => .array .int
  | 2 => .array (.array .int)
  | 3 => .array .int
  | 4 => .array .int
  | _ => .int
theorem nmX9 : ∀ a, a < 6 → ∀ b, b < 6 → a ≠ b → (TX9 a).2.1 ≠ (TX9 b).2.1 := by decide +kernel
theorem tyX9_ok : ∀ k, k < 6 → parseFieldDescriptor (TX9 k).2.2.1 = some (tyX9 k) := by decide +kernel
abbrev cX9_init : ByteArray := prog_11_method_1_code
def yX9_init : MethodName := ⟨RX9, "<init>", "()V"⟩
abbrev cX9_size : ByteArray := prog_11_method_2_code
def yX9_size : MethodName := ⟨RX9, "size", "()I"⟩
abbrev cX9_has : ByteArray := prog_11_method_3_code
def yX9_has : MethodName := ⟨RX9, "has", "(I)Z"⟩
abbrev cX9_enter : ByteArray := prog_11_method_4_code
def yX9_enter : MethodName := ⟨RX9, "enter", "(II)I"⟩
abbrev cX9_bookOf : ByteArray := prog_11_method_5_code
def yX9_bookOf : MethodName := ⟨RX9, "bookOf", "(I)I"⟩
abbrev cX9_measureOf : ByteArray := prog_11_method_6_code
def yX9_measureOf : MethodName := ⟨RX9, "measureOf", "(I)I"⟩
abbrev cX9_putRow : ByteArray := prog_11_method_7_code
def yX9_putRow : MethodName := ⟨RX9, "putRow", "(II[II)V"⟩
abbrev cX9_rowOf : ByteArray := prog_11_method_8_code
def yX9_rowOf : MethodName := ⟨RX9, "rowOf", "(II)[I"⟩
abbrev cX9_recordReader : ByteArray := prog_11_method_9_code
def yX9_recordReader : MethodName := ⟨RX9, "recordReader", "(IIIZ)V"⟩
abbrev cX9_missedBits : ByteArray := prog_11_method_10_code
def yX9_missedBits : MethodName := ⟨RX9, "missedBits", "(I)I"⟩
def RX10 : String := "VerseCommittee$Words"
def TX10 : u_T := fun k => match k with
  | 0 => ("VerseCommittee$Words", "letters", "[B", true)
  | 1 => ("VerseCommittee$Words", "sizes", "[B", true)
  | _ => ("VerseCommittee$Words", "size", "I", false)
def tyX10 : Nat → FieldType := fun k => match k with
  | 0 => .array .byte
  | 1 => .array .byte
  | _ => .int
theorem nmX10 : ∀ a, a < 3 → ∀ b, b < 3 → a ≠ b → (TX10 a).2.1 ≠ (TX10 b).2.1 := by decide +kernel
theorem tyX10_ok : ∀ k, k < 3 → parseFieldDescriptor (TX10 k).2.2.1 = some (tyX10 k) := by decide +kernel
abbrev cX10_init : ByteArray := prog_12_method_1_code
def yX10_init : MethodName := ⟨RX10, "<init>", "()V"⟩
abbrev cX10_size : ByteArray := prog_12_method_2_code
def yX10_size : MethodName := ⟨RX10, "size", "()I"⟩
abbrev cX10_has : ByteArray := prog_12_method_3_code
def yX10_has : MethodName := ⟨RX10, "has", "(I)Z"⟩
abbrev cX10_enter : ByteArray := prog_12_method_4_code
def yX10_enter : MethodName := ⟨RX10, "enter", "([II)I"⟩
abbrev cX10_respell : ByteArray := prog_12_method_5_code
def yX10_respell : MethodName := ⟨RX10, "respell", "(II[II)V"⟩
abbrev cX10_sizeIn : ByteArray := prog_12_method_6_code
def yX10_sizeIn : MethodName := ⟨RX10, "sizeIn", "(II)I"⟩
abbrev cX10_letterIn : ByteArray := prog_12_method_7_code
def yX10_letterIn : MethodName := ⟨RX10, "letterIn", "(III)I"⟩
abbrev cX10_vowelRows : ByteArray := prog_12_method_8_code
def yX10_vowelRows : MethodName := ⟨RX10, "vowelRows", "(I)I"⟩
abbrev cX10_isVowel : ByteArray := prog_12_method_9_code
def yX10_isVowel : MethodName := ⟨RX10, "isVowel", "(I)Z"⟩
abbrev cX10_formIn : ByteArray := prog_12_method_10_code
def yX10_formIn : MethodName := ⟨RX10, "formIn", "(II)I"⟩
abbrev cX10_put : ByteArray := prog_12_method_11_code
def yX10_put : MethodName := ⟨RX10, "put", "(I[II)V"⟩
abbrev cX10_isThere : ByteArray := prog_12_method_12_code
def yX10_isThere : MethodName := ⟨RX10, "isThere", "([II)Z"⟩
abbrev cX10_isSpelledSo : ByteArray := prog_12_method_13_code
def yX10_isSpelledSo : MethodName := ⟨RX10, "isSpelledSo", "(I[II)Z"⟩
def RX11 : String := "VerseCommittee"
def TX11 : u_T := fun k => match k with
  | 0 => ("VerseCommittee", "tape", "[I", true)
  | 1 => ("VerseCommittee", "scratch", "[I", true)
  | 2 => ("VerseCommittee", "words", "LVerseCommittee$Words;", true)
  | 3 => ("VerseCommittee", "verses", "LVerseCommittee$Verses;", true)
  | 4 => ("VerseCommittee", "people", "LVerseCommittee$People;", true)
  | 5 => ("VerseCommittee", "laws", "LVerseCommittee$Laws;", true)
  | 6 => ("VerseCommittee", "shelf", "LVerseCommittee$Shelf;", true)
  | 7 => ("VerseCommittee", "parser", "LVerseCommittee$Parser;", true)
  | 8 => ("VerseCommittee", "reckoner", "LVerseCommittee$Reckoner;", true)
  | 9 => ("VerseCommittee", "findings", "LVerseCommittee$Findings;", true)
  | 10 => ("VerseCommittee", "choices", "LVerseCommittee$Choices;", true)
  | 11 => ("VerseCommittee", "planner", "LVerseCommittee$Planner;", true)
  | 12 => ("VerseCommittee", "taped", "I", false)
  | _ => ("VerseCommittee", "today", "I", false)
def tyX11 : Nat → FieldType := fun k => match k with
  | 0 => .array .int
  | 1 => .array .int
  | 2 => .object "VerseCommittee$Words"
  | 3 => .object "VerseCommittee$Verses"
  | 4 => .object "VerseCommittee$People"
  | 5 => .object "VerseCommittee$Laws"
  | 6 => .object "VerseCommittee$Shelf"
  | 7 => .object "VerseCommittee$Parser"
  | 8 => .object "VerseCommittee$Reckoner"
  | 9 => .object "VerseCommittee$Findings"
  | 10 => .object "VerseCommittee$Choices"
  | 11 => .object "VerseCommittee$Planner"
  | 12 => .int
  | _ => .int
theorem nmX11 : ∀ a, a < 14 → ∀ b, b < 14 → a ≠ b → (TX11 a).2.1 ≠ (TX11 b).2.1 := by decide +kernel
theorem tyX11_ok : ∀ k, k < 14 → parseFieldDescriptor (TX11 k).2.2.1 = some (tyX11 k) := by decide +kernel
abbrev cX11_init : ByteArray := prog_1_method_1_code
def yX11_init : MethodName := ⟨RX11, "<init>", "()V"⟩
abbrev cX11_now : ByteArray := prog_1_method_2_code
def yX11_now : MethodName := ⟨RX11, "now", "(I)Z"⟩
abbrev cX11_feed : ByteArray := prog_1_method_3_code
def yX11_feed : MethodName := ⟨RX11, "feed", "(IIIII)I"⟩
abbrev cX11_verse : ByteArray := prog_1_method_4_code
def yX11_verse : MethodName := ⟨RX11, "verse", "(II)I"⟩
abbrev cX11_source : ByteArray := prog_1_method_5_code
def yX11_source : MethodName := ⟨RX11, "source", "(III)Z"⟩
abbrev cX11_word : ByteArray := prog_1_method_6_code
def yX11_word : MethodName := ⟨RX11, "word", "(I)I"⟩
abbrev cX11_spell : ByteArray := prog_1_method_7_code
def yX11_spell : MethodName := ⟨RX11, "spell", "(III)Z"⟩
abbrev cX11_syllables : ByteArray := prog_1_method_8_code
def yX11_syllables : MethodName := ⟨RX11, "syllables", "(I)I"⟩
abbrev cX11_company : ByteArray := prog_1_method_9_code
def yX11_company : MethodName := ⟨RX11, "company", "(II)I"⟩
abbrev cX11_centre : ByteArray := prog_1_method_10_code
def yX11_centre : MethodName := ⟨RX11, "centre", "(I)Z"⟩
abbrev cX11_scholar : ByteArray := prog_1_method_11_code
def yX11_scholar : MethodName := ⟨RX11, "scholar", "(IZ)I"⟩
abbrev cX11_rules : ByteArray := prog_1_method_12_code
def yX11_rules : MethodName := ⟨RX11, "rules", "(IIII)I"⟩
abbrev cX11_holds : ByteArray := prog_1_method_13_code
def yX11_holds : MethodName := ⟨RX11, "holds", "(IIII)I"⟩
abbrev cX11_asks : ByteArray := prog_1_method_14_code
def yX11_asks : MethodName := ⟨RX11, "asks", "(III)I"⟩
abbrev cX11_token : ByteArray := prog_1_method_15_code
def yX11_token : MethodName := ⟨RX11, "token", "(III)I"⟩
abbrev cX11_differ : ByteArray := prog_1_method_16_code
def yX11_differ : MethodName := ⟨RX11, "differ", "(III)I"⟩
abbrev cX11_render : ByteArray := prog_1_method_17_code
def yX11_render : MethodName := ⟨RX11, "render", "(III)I"⟩
abbrev cX11_vote : ByteArray := prog_1_method_18_code
def yX11_vote : MethodName := ⟨RX11, "vote", "(IIZ)Z"⟩
abbrev cX11_close : ByteArray := prog_1_method_19_code
def yX11_close : MethodName := ⟨RX11, "close", "(I)I"⟩
abbrev cX11_voids : ByteArray := prog_1_method_20_code
def yX11_voids : MethodName := ⟨RX11, "voids", "(I)I"⟩
abbrev cX11_fixed : ByteArray := prog_1_method_21_code
def yX11_fixed : MethodName := ⟨RX11, "fixed", "(I)I"⟩
abbrev cX11_fixedOn : ByteArray := prog_1_method_22_code
def yX11_fixedOn : MethodName := ⟨RX11, "fixedOn", "(II)I"⟩
abbrev cX11_breaches : ByteArray := prog_1_method_23_code
def yX11_breaches : MethodName := ⟨RX11, "breaches", "(I)I"⟩
abbrev cX11_breach : ByteArray := prog_1_method_24_code
def yX11_breach : MethodName := ⟨RX11, "breach", "(III)I"⟩
abbrev cX11_quarrel : ByteArray := prog_1_method_25_code
def yX11_quarrel : MethodName := ⟨RX11, "quarrel", "(III)I"⟩
abbrev cX11_unlike : ByteArray := prog_1_method_26_code
def yX11_unlike : MethodName := ⟨RX11, "unlike", "(II)I"⟩
abbrev cX11_option : ByteArray := prog_1_method_27_code
def yX11_option : MethodName := ⟨RX11, "option", "(II)Z"⟩
abbrev cX11_apart : ByteArray := prog_1_method_28_code
def yX11_apart : MethodName := ⟨RX11, "apart", "(II)Z"⟩
abbrev cX11_cost : ByteArray := prog_1_method_29_code
def yX11_cost : MethodName := ⟨RX11, "cost", "(I)I"⟩
abbrev cX11_one : ByteArray := prog_1_method_30_code
def yX11_one : MethodName := ⟨RX11, "one", "()I"⟩
abbrev cX11_line : ByteArray := prog_1_method_31_code
def yX11_line : MethodName := ⟨RX11, "line", "(I)I"⟩
abbrev cX11_reads : ByteArray := prog_1_method_32_code
def yX11_reads : MethodName := ⟨RX11, "reads", "(IIIZ)Z"⟩
abbrev cX11_missed : ByteArray := prog_1_method_33_code
def yX11_missed : MethodName := ⟨RX11, "missed", "(I)I"⟩
abbrev cX11_changes : ByteArray := prog_1_method_34_code
def yX11_changes : MethodName := ⟨RX11, "changes", "(III)I"⟩
abbrev cX11_printed : ByteArray := prog_1_method_35_code
def yX11_printed : MethodName := ⟨RX11, "printed", "(III)I"⟩
abbrev cX11_plan : ByteArray := prog_1_method_36_code
def yX11_plan : MethodName := ⟨RX11, "plan", "(I)I"⟩
abbrev cX11_judge : ByteArray := prog_1_method_37_code
def yX11_judge : MethodName := ⟨RX11, "judge", "(I)I"⟩
abbrev cX11_check : ByteArray := prog_1_method_38_code
def yX11_check : MethodName := ⟨RX11, "check", "(I)I"⟩
abbrev cX11_look : ByteArray := prog_1_method_39_code
def yX11_look : MethodName := ⟨RX11, "look", "(II)I"⟩
abbrev cX11_count : ByteArray := prog_1_method_40_code
def yX11_count : MethodName := ⟨RX11, "count", "(I)I"⟩
abbrev cX11_putFour : ByteArray := prog_1_method_41_code
def yX11_putFour : MethodName := ⟨RX11, "putFour", "(I)V"⟩
abbrev cX11_isDay : ByteArray := prog_1_method_42_code
def yX11_isDay : MethodName := ⟨RX11, "isDay", "(I)Z"⟩
abbrev cX11_isPastDay : ByteArray := prog_1_method_43_code
def yX11_isPastDay : MethodName := ⟨RX11, "isPastDay", "(I)Z"⟩
abbrev cX11_isCopy : ByteArray := prog_1_method_44_code
def yX11_isCopy : MethodName := ⟨RX11, "isCopy", "(I)Z"⟩
abbrev cX11_isEdition : ByteArray := prog_1_method_45_code
def yX11_isEdition : MethodName := ⟨RX11, "isEdition", "(I)Z"⟩
abbrev cX11_isRate : ByteArray := prog_1_method_46_code
def yX11_isRate : MethodName := ⟨RX11, "isRate", "(I)Z"⟩
abbrev cX11_isSign : ByteArray := prog_1_method_47_code
def yX11_isSign : MethodName := ⟨RX11, "isSign", "(I)Z"⟩
abbrev cX11_tapeHas : ByteArray := prog_1_method_48_code
def yX11_tapeHas : MethodName := ⟨RX11, "tapeHas", "(II)Z"⟩
abbrev cX11_tapeHasTokens : ByteArray := prog_1_method_49_code
def yX11_tapeHasTokens : MethodName := ⟨RX11, "tapeHasTokens", "(I)Z"⟩
abbrev cX11_tapeHasLetters : ByteArray := prog_1_method_50_code
def yX11_tapeHasLetters : MethodName := ⟨RX11, "tapeHasLetters", "(I)Z"⟩
abbrev cX11_tapeHasSlots : ByteArray := prog_1_method_51_code
def yX11_tapeHasSlots : MethodName := ⟨RX11, "tapeHasSlots", "(II)Z"⟩
abbrev cX11_votersOf : ByteArray := prog_1_method_52_code
def yX11_votersOf : MethodName := ⟨RX11, "votersOf", "(LVerseCommittee$Rendering;)I"⟩
abbrev cX11_breaksMeasure : ByteArray := prog_1_method_53_code
def yX11_breaksMeasure : MethodName := ⟨RX11, "breaksMeasure", "(LVerseCommittee$Rendering;I)Z"⟩
abbrev cX11_wordsFixedThen : ByteArray := prog_1_method_54_code
def yX11_wordsFixedThen : MethodName := ⟨RX11, "wordsFixedThen", "(II)[I"⟩
abbrev cX11_signOfAdded : ByteArray := prog_1_method_55_code
def yX11_signOfAdded : MethodName := ⟨RX11, "signOfAdded", "(III)I"⟩
abbrev cX11_firstWrongByte : ByteArray := prog_1_method_56_code
def yX11_firstWrongByte : MethodName := ⟨RX11, "firstWrongByte", "(I)I"⟩
abbrev cX11_distance : ByteArray := prog_1_method_57_code
def yX11_distance : MethodName := ⟨RX11, "distance", "([I[I)I"⟩
def RX12 : String := "VerseCommitteeModel"
def TX12 : u_T := fun k => match k with
  | 0 => ("VerseCommitteeModel", "tape", "[B", true)
  | 1 => ("VerseCommitteeModel", "taped", "I", false)
  | 2 => ("VerseCommitteeModel", "now", "I", false)
  | 3 => ("VerseCommitteeModel", "verses", "I", false)
  | 4 => ("VerseCommitteeModel", "words", "I", false)
  | 5 => ("VerseCommitteeModel", "companies", "I", false)
  | 6 => ("VerseCommitteeModel", "scholars", "I", false)
  | 7 => ("VerseCommitteeModel", "rules", "I", false)
  | 8 => ("VerseCommitteeModel", "renderings", "I", false)
  | 9 => ("VerseCommitteeModel", "centreRate", "I", false)
  | 10 => ("VerseCommitteeModel", "book", "[I", true)
  | 11 => ("VerseCommitteeModel", "measure", "[I", true)
  | 12 => ("VerseCommitteeModel", "size", "[I", true)
  | 13 => ("VerseCommitteeModel", "token", "[I", true)
  | 14 => ("VerseCommitteeModel", "spelledMany", "[I", true)
  | 15 => ("VerseCommitteeModel", "spelled", "[B", true)
  | 16 => ("VerseCommitteeModel", "books", "[I", true)
  | 17 => ("VerseCommitteeModel", "rate", "[I", true)
  | 18 => ("VerseCommitteeModel", "scholarOf", "[I", true)
  | 19 => ("VerseCommitteeModel", "isCentre", "[Z", true)
  | 20 => ("VerseCommitteeModel", "isVoid", "[Z", true)
  | 21 => ("VerseCommitteeModel", "own", "[B", true)
  | 22 => ("VerseCommitteeModel", "ownMany", "[I", true)
  | 23 => ("VerseCommitteeModel", "ruleFor", "[I", true)
  | 24 => ("VerseCommitteeModel", "ruleFrom", "[I", true)
  | 25 => ("VerseCommitteeModel", "ruleTo", "[I", true)
  | 26 => ("VerseCommitteeModel", "clauses", "[I", true)
  | 27 => ("VerseCommitteeModel", "letter", "[I", true)
  | 28 => ("VerseCommitteeModel", "first", "[I", true)
  | 29 => ("VerseCommitteeModel", "second", "[I", true)
  | 30 => ("VerseCommitteeModel", "third", "[I", true)
  | 31 => ("VerseCommitteeModel", "codeFrom", "[I", true)
  | 32 => ("VerseCommitteeModel", "codeTo", "[I", true)
  | 33 => ("VerseCommitteeModel", "code", "[I", true)
  | 34 => ("VerseCommitteeModel", "codeArg", "[I", true)
  | 35 => ("VerseCommitteeModel", "place", "I", false)
  | 36 => ("VerseCommitteeModel", "end", "I", false)
  | 37 => ("VerseCommitteeModel", "bad", "I", false)
  | 38 => ("VerseCommitteeModel", "many", "I", false)
  | 39 => ("VerseCommitteeModel", "codes", "I", false)
  | 40 => ("VerseCommitteeModel", "open", "I", false)
  | 41 => ("VerseCommitteeModel", "depth", "I", false)
  | 42 => ("VerseCommitteeModel", "isDone", "Z", false)
  | 43 => ("VerseCommitteeModel", "isBehind", "Z", false)
  | 44 => ("VerseCommitteeModel", "stack", "[I", true)
  | 45 => ("VerseCommitteeModel", "value", "[I", true)
  | 46 => ("VerseCommitteeModel", "isRefused", "[Z", true)
  | 47 => ("VerseCommitteeModel", "rowA", "[I", true)
  | 48 => ("VerseCommitteeModel", "rowB", "[I", true)
  | 49 => ("VerseCommitteeModel", "least", "[I", true)
  | 50 => ("VerseCommitteeModel", "rScholar", "[I", true)
  | 51 => ("VerseCommitteeModel", "rVerse", "[I", true)
  | 52 => ("VerseCommitteeModel", "rState", "[I", true)
  | 53 => ("VerseCommitteeModel", "rDay", "[I", true)
  | 54 => ("VerseCommitteeModel", "rCopy", "[I", true)
  | 55 => ("VerseCommitteeModel", "rTokens", "[I", true)
  | 56 => ("VerseCommitteeModel", "rToken", "[I", true)
  | 57 => ("VerseCommitteeModel", "rSlots", "[I", true)
  | 58 => ("VerseCommitteeModel", "rWord", "[I", true)
  | 59 => ("VerseCommitteeModel", "rTurns", "[I", true)
  | 60 => ("VerseCommitteeModel", "rFixedDay", "[I", true)
  | 61 => ("VerseCommitteeModel", "yes", "[I", true)
  | 62 => ("VerseCommitteeModel", "all", "[I", true)
  | 63 => ("VerseCommitteeModel", "hundredths", "[I", true)
  | 64 => ("VerseCommitteeModel", "votedThen", "[I", true)
  | 65 => ("VerseCommitteeModel", "yesThen", "[I", true)
  | 66 => ("VerseCommitteeModel", "voted", "[I", true)
  | 67 => ("VerseCommitteeModel", "saidYes", "[I", true)
  | 68 => ("VerseCommitteeModel", "tellings", "I", false)
  | 69 => ("VerseCommitteeModel", "tVerse", "[I", true)
  | 70 => ("VerseCommitteeModel", "tRendering", "[I", true)
  | 71 => ("VerseCommitteeModel", "tDay", "[I", true)
  | 72 => ("VerseCommitteeModel", "foundClause", "I", false)
  | 73 => ("VerseCommitteeModel", "foundToken", "I", false)
  | 74 => ("VerseCommitteeModel", "otherClause", "I", false)
  | 75 => ("VerseCommitteeModel", "twoA", "I", false)
  | 76 => ("VerseCommitteeModel", "twoB", "I", false)
  | 77 => ("VerseCommitteeModel", "placeA", "I", false)
  | 78 => ("VerseCommitteeModel", "placeB", "I", false)
  | 79 => ("VerseCommitteeModel", "twos", "[I", true)
  | 80 => ("VerseCommitteeModel", "signs", "I", false)
  | 81 => ("VerseCommitteeModel", "sign", "[I", true)
  | 82 => ("VerseCommitteeModel", "options", "[I", true)
  | 83 => ("VerseCommitteeModel", "option", "[I", true)
  | 84 => ("VerseCommitteeModel", "isApart", "[Z", true)
  | 85 => ("VerseCommitteeModel", "costs", "[I", true)
  | 86 => ("VerseCommitteeModel", "isBarred", "[Z", true)
  | 87 => ("VerseCommitteeModel", "told", "[I", true)
  | 88 => ("VerseCommitteeModel", "right", "[I", true)
  | 89 => ("VerseCommitteeModel", "printMany", "I", false)
  | 90 => ("VerseCommitteeModel", "print", "[B", true)
  | 91 => ("VerseCommitteeModel", "openBooks", "I", false)
  | 92 => ("VerseCommitteeModel", "openVerses", "I", false)
  | 93 => ("VerseCommitteeModel", "openBook", "[I", true)
  | 94 => ("VerseCommitteeModel", "openMany", "[I", true)
  | _ => ("VerseCommitteeModel", "load", "[I", true)
def tyX12 : Nat → FieldType := fun k => match k with
  | 0 => .array .byte
  | 1 => .int
  | 2 => .int
  | 3 => .int
  | 4 => .int
  | 5 => .int
  | 6 => .int
  | 7 => .int
  | 8 => .int
  | 9 => .int
  | 10 => .array .int
  | 11 => .array .int
  | 12 => .array .int
  | 13 => .array .int
  | 14 => .array .int
  | 15 => .array .byte
  | 16 => .array .int
  | 17 => .array .int
  | 18 => .array .int
  | 19 => .array .boolean
  | 20 => .array .boolean
  | 21 => .array .byte
  | 22 => .array .int
  | 23 => .array .int
  | 24 => .array .int
  | 25 => .array .int
  | 26 => .array .int
  | 27 => .array .int
  | 28 => .array .int
  | 29 => .array .int
  | 30 => .array .int
  | 31 => .array .int
  | 32 => .array .int
  | 33 => .array .int
  | 34 => .array .int
  | 35 => .int
  | 36 => .int
  | 37 => .int
  | 38 => .int
  | 39 => .int
  | 40 => .int
  | 41 => .int
  | 42 => .boolean
  | 43 => .boolean
  | 44 => .array .int
  | 45 => .array .int
  | 46 => .array .boolean
  | 47 => .array .int
  | 48 => .array .int
  | 49 => .array .int
  | 50 => .array .int
  | 51 => .array .int
  | 52 => .array .int
  | 53 => .array .int
  | 54 => .array .int
  | 55 => .array .int
  | 56 => .array .int
  | 57 => .array .int
  | 58 => .array .int
  | 59 => .array .int
  | 60 => .array .int
  | 61 => .array .int
  | 62 => .array .int
  | 63 => .array .int
  | 64 => .array .int
  | 65 => .array .int
  | 66 => .array .int
  | 67 => .array .int
  | 68 => .int
  | 69 => .array .int
  | 70 => .array .int
  | 71 => .array .int
  | 72 => .int
  | 73 => .int
  | 74 => .int
  | 75 => .int
  | 76 => .int
  | 77 => .int
  | 78 => .int
  | 79 => .array .int
  | 80 => .int
  | 81 => .array .int
  | 82 => .array .int
  | 83 => .array .int
  | 84 => .array .boolean
  | 85 => .array .int
  | 86 => .array .boolean
  | 87 => .array .int
  | 88 => .array .int
  | 89 => .int
  | 90 => .array .byte
  | 91 => .int
  | 92 => .int
  | 93 => .array .int
  | 94 => .array .int
  | _ => .array .int
theorem nmX12 : ∀ a, a < 96 → ∀ b, b < 96 → a ≠ b → (TX12 a).2.1 ≠ (TX12 b).2.1 := by decide +kernel
theorem tyX12_ok : ∀ k, k < 96 → parseFieldDescriptor (TX12 k).2.2.1 = some (tyX12 k) := by decide +kernel
abbrev cX12_init : ByteArray := prog_14_method_1_code
def yX12_init : MethodName := ⟨RX12, "<init>", "()V"⟩
abbrev cX12_lies : ByteArray := prog_14_method_2_code
def yX12_lies : MethodName := ⟨RX12, "lies", "(III)Z"⟩
abbrev cX12_has : ByteArray := prog_14_method_3_code
def yX12_has : MethodName := ⟨RX12, "has", "(II)Z"⟩
abbrev cX12_isVerse : ByteArray := prog_14_method_4_code
def yX12_isVerse : MethodName := ⟨RX12, "isVerse", "(I)Z"⟩
abbrev cX12_isWord : ByteArray := prog_14_method_5_code
def yX12_isWord : MethodName := ⟨RX12, "isWord", "(I)Z"⟩
abbrev cX12_isDay : ByteArray := prog_14_method_6_code
def yX12_isDay : MethodName := ⟨RX12, "isDay", "(I)Z"⟩
abbrev cX12_now : ByteArray := prog_14_method_7_code
def yX12_now : MethodName := ⟨RX12, "now", "(I)Z"⟩
abbrev cX12_push : ByteArray := prog_14_method_8_code
def yX12_push : MethodName := ⟨RX12, "push", "(I)V"⟩
abbrev cX12_feed : ByteArray := prog_14_method_9_code
def yX12_feed : MethodName := ⟨RX12, "feed", "(IIIII)I"⟩
abbrev cX12_verse : ByteArray := prog_14_method_10_code
def yX12_verse : MethodName := ⟨RX12, "verse", "(II)I"⟩
abbrev cX12_source : ByteArray := prog_14_method_11_code
def yX12_source : MethodName := ⟨RX12, "source", "(III)Z"⟩
abbrev cX12_token : ByteArray := prog_14_method_12_code
def yX12_token : MethodName := ⟨RX12, "token", "(III)I"⟩
abbrev cX12_isSmall : ByteArray := prog_14_method_13_code
def yX12_isSmall : MethodName := ⟨RX12, "isSmall", "(I)Z"⟩
abbrev cX12_spells : ByteArray := prog_14_method_15_code
def yX12_spells : MethodName := ⟨RX12, "spells", "(III)V"⟩
abbrev cX12_isOwn : ByteArray := prog_14_method_16_code
def yX12_isOwn : MethodName := ⟨RX12, "isOwn", "(II)Z"⟩
abbrev cX12_word : ByteArray := prog_14_method_17_code
def yX12_word : MethodName := ⟨RX12, "word", "(I)I"⟩
abbrev cX12_spell : ByteArray := prog_14_method_18_code
def yX12_spell : MethodName := ⟨RX12, "spell", "(III)Z"⟩
abbrev cX12_isVowel : ByteArray := prog_14_method_19_code
def yX12_isVowel : MethodName := ⟨RX12, "isVowel", "(I)Z"⟩
abbrev cX12_syllablesOf : ByteArray := prog_14_method_20_code
def yX12_syllablesOf : MethodName := ⟨RX12, "syllablesOf", "(I)I"⟩
abbrev cX12_syllables : ByteArray := prog_14_method_21_code
def yX12_syllables : MethodName := ⟨RX12, "syllables", "(I)I"⟩
abbrev cX12_company : ByteArray := prog_14_method_22_code
def yX12_company : MethodName := ⟨RX12, "company", "(II)I"⟩
abbrev cX12_centre : ByteArray := prog_14_method_23_code
def yX12_centre : MethodName := ⟨RX12, "centre", "(I)Z"⟩
abbrev cX12_scholar : ByteArray := prog_14_method_24_code
def yX12_scholar : MethodName := ⟨RX12, "scholar", "(IZ)I"⟩
abbrev cX12_companyOf : ByteArray := prog_14_method_25_code
def yX12_companyOf : MethodName := ⟨RX12, "companyOf", "(I)I"⟩
abbrev cX12_here : ByteArray := prog_14_method_26_code
def yX12_here : MethodName := ⟨RX12, "here", "()I"⟩
abbrev cX12_fails : ByteArray := prog_14_method_27_code
def yX12_fails : MethodName := ⟨RX12, "fails", "(II)V"⟩
abbrev cX12_isGood : ByteArray := prog_14_method_28_code
def yX12_isGood : MethodName := ⟨RX12, "isGood", "()Z"⟩
abbrev cX12_emit : ByteArray := prog_14_method_29_code
def yX12_emit : MethodName := ⟨RX12, "emit", "(II)V"⟩
abbrev cX12_top : ByteArray := prog_14_method_30_code
def yX12_top : MethodName := ⟨RX12, "top", "()I"⟩
abbrev cX12_puts : ByteArray := prog_14_method_31_code
def yX12_puts : MethodName := ⟨RX12, "puts", "(I)V"⟩
abbrev cX12_opens : ByteArray := prog_14_method_32_code
def yX12_opens : MethodName := ⟨RX12, "opens", "()V"⟩
abbrev cX12_seesDigit : ByteArray := prog_14_method_33_code
def yX12_seesDigit : MethodName := ⟨RX12, "seesDigit", "()Z"⟩
abbrev cX12_readsNumber : ByteArray := prog_14_method_34_code
def yX12_readsNumber : MethodName := ⟨RX12, "readsNumber", "(I)I"⟩
abbrev cX12_must : ByteArray := prog_14_method_35_code
def yX12_must : MethodName := ⟨RX12, "must", "(I)V"⟩
abbrev cX12_isTimes : ByteArray := prog_14_method_36_code
def yX12_isTimes : MethodName := ⟨RX12, "isTimes", "(I)Z"⟩
abbrev cX12_isPlus : ByteArray := prog_14_method_37_code
def yX12_isPlus : MethodName := ⟨RX12, "isPlus", "(I)Z"⟩
abbrev cX12_isSign : ByteArray := prog_14_method_38_code
def yX12_isSign : MethodName := ⟨RX12, "isSign", "(I)Z"⟩
abbrev cX12_isValue : ByteArray := prog_14_method_39_code
def yX12_isValue : MethodName := ⟨RX12, "isValue", "(I)Z"⟩
abbrev cX12_sums : ByteArray := prog_14_method_40_code
def yX12_sums : MethodName := ⟨RX12, "sums", "(Z)V"⟩
abbrev cX12_joins : ByteArray := prog_14_method_41_code
def yX12_joins : MethodName := ⟨RX12, "joins", "(Z)V"⟩
abbrev cX12_ends : ByteArray := prog_14_method_42_code
def yX12_ends : MethodName := ⟨RX12, "ends", "()V"⟩
abbrev cX12_factor : ByteArray := prog_14_method_43_code
def yX12_factor : MethodName := ⟨RX12, "factor", "()V"⟩
abbrev cX12_goesOn : ByteArray := prog_14_method_44_code
def yX12_goesOn : MethodName := ⟨RX12, "goesOn", "()Z"⟩
abbrev cX12_piece : ByteArray := prog_14_method_45_code
def yX12_piece : MethodName := ⟨RX12, "piece", "()V"⟩
abbrev cX12_goesBehind : ByteArray := prog_14_method_46_code
def yX12_goesBehind : MethodName := ⟨RX12, "goesBehind", "()Z"⟩
abbrev cX12_condition : ByteArray := prog_14_method_47_code
def yX12_condition : MethodName := ⟨RX12, "condition", "()V"⟩
abbrev cX12_readsMust : ByteArray := prog_14_method_48_code
def yX12_readsMust : MethodName := ⟨RX12, "readsMust", "(I)V"⟩
abbrev cX12_readsRank : ByteArray := prog_14_method_49_code
def yX12_readsRank : MethodName := ⟨RX12, "readsRank", "(I)V"⟩
abbrev cX12_clause : ByteArray := prog_14_method_50_code
def yX12_clause : MethodName := ⟨RX12, "clause", "()V"⟩
abbrev cX12_rules : ByteArray := prog_14_method_51_code
def yX12_rules : MethodName := ⟨RX12, "rules", "(IIII)I"⟩
abbrev cX12_isInForce : ByteArray := prog_14_method_52_code
def yX12_isInForce : MethodName := ⟨RX12, "isInForce", "(III)Z"⟩
abbrev cX12_lastOf : ByteArray := prog_14_method_53_code
def yX12_lastOf : MethodName := ⟨RX12, "lastOf", "(IIII)I"⟩
abbrev cX12_copyOf : ByteArray := prog_14_method_54_code
def yX12_copyOf : MethodName := ⟨RX12, "copyOf", "(II)I"⟩
abbrev cX12_tokensOf : ByteArray := prog_14_method_55_code
def yX12_tokensOf : MethodName := ⟨RX12, "tokensOf", "(II)I"⟩
abbrev cX12_neededAt : ByteArray := prog_14_method_56_code
def yX12_neededAt : MethodName := ⟨RX12, "neededAt", "(III)I"⟩
abbrev cX12_daysOf : ByteArray := prog_14_method_57_code
def yX12_daysOf : MethodName := ⟨RX12, "daysOf", "(II)I"⟩
abbrev cX12_asks : ByteArray := prog_14_method_58_code
def yX12_asks : MethodName := ⟨RX12, "asks", "(III)I"⟩
abbrev cX12_valueOf : ByteArray := prog_14_method_59_code
def yX12_valueOf : MethodName := ⟨RX12, "valueOf", "(III)I"⟩
abbrev cX12_worked : ByteArray := prog_14_method_60_code
def yX12_worked : MethodName := ⟨RX12, "worked", "(III)I"⟩
abbrev cX12_does : ByteArray := prog_14_method_61_code
def yX12_does : MethodName := ⟨RX12, "does", "(II)V"⟩
abbrev cX12_worth : ByteArray := prog_14_method_62_code
def yX12_worth : MethodName := ⟨RX12, "worth", "(III)I"⟩
abbrev cX12_holds : ByteArray := prog_14_method_63_code
def yX12_holds : MethodName := ⟨RX12, "holds", "(IIII)I"⟩
abbrev cX12_fewest : ByteArray := prog_14_method_64_code
def yX12_fewest : MethodName := ⟨RX12, "fewest", "(II)I"⟩
abbrev cX12_differ : ByteArray := prog_14_method_65_code
def yX12_differ : MethodName := ⟨RX12, "differ", "(III)I"⟩
abbrev cX12_isRendering : ByteArray := prog_14_method_66_code
def yX12_isRendering : MethodName := ⟨RX12, "isRendering", "(I)Z"⟩
abbrev cX12_render : ByteArray := prog_14_method_67_code
def yX12_render : MethodName := ⟨RX12, "render", "(III)I"⟩
abbrev cX12_isOfStage : ByteArray := prog_14_method_68_code
def yX12_isOfStage : MethodName := ⟨RX12, "isOfStage", "(III)Z"⟩
abbrev cX12_isOpen : ByteArray := prog_14_method_69_code
def yX12_isOpen : MethodName := ⟨RX12, "isOpen", "(I)Z"⟩
abbrev cX12_vote : ByteArray := prog_14_method_70_code
def yX12_vote : MethodName := ⟨RX12, "vote", "(IIZ)Z"⟩
abbrev cX12_fixedOf : ByteArray := prog_14_method_71_code
def yX12_fixedOf : MethodName := ⟨RX12, "fixedOf", "(I)I"⟩
abbrev cX12_tells : ByteArray := prog_14_method_72_code
def yX12_tells : MethodName := ⟨RX12, "tells", "(II)V"⟩
abbrev cX12_close : ByteArray := prog_14_method_73_code
def yX12_close : MethodName := ⟨RX12, "close", "(I)I"⟩
abbrev cX12_goesWithout : ByteArray := prog_14_method_74_code
def yX12_goesWithout : MethodName := ⟨RX12, "goesWithout", "(II)Z"⟩
abbrev cX12_unfixes : ByteArray := prog_14_method_75_code
def yX12_unfixes : MethodName := ⟨RX12, "unfixes", "(I)V"⟩
abbrev cX12_goesBack : ByteArray := prog_14_method_76_code
def yX12_goesBack : MethodName := ⟨RX12, "goesBack", "(II)I"⟩
abbrev cX12_voids : ByteArray := prog_14_method_77_code
def yX12_voids : MethodName := ⟨RX12, "voids", "(I)I"⟩
abbrev cX12_fixed : ByteArray := prog_14_method_78_code
def yX12_fixed : MethodName := ⟨RX12, "fixed", "(I)I"⟩
abbrev cX12_fixedAt : ByteArray := prog_14_method_79_code
def yX12_fixedAt : MethodName := ⟨RX12, "fixedAt", "(II)I"⟩
abbrev cX12_fixedOn : ByteArray := prog_14_method_80_code
def yX12_fixedOn : MethodName := ⟨RX12, "fixedOn", "(II)I"⟩
abbrev cX12_isMeant : ByteArray := prog_14_method_81_code
def yX12_isMeant : MethodName := ⟨RX12, "isMeant", "(II)Z"⟩
abbrev cX12_turnsBy : ByteArray := prog_14_method_82_code
def yX12_turnsBy : MethodName := ⟨RX12, "turnsBy", "(III)Z"⟩
abbrev cX12_breachesOf : ByteArray := prog_14_method_83_code
def yX12_breachesOf : MethodName := ⟨RX12, "breachesOf", "(II)I"⟩
abbrev cX12_breaches : ByteArray := prog_14_method_84_code
def yX12_breaches : MethodName := ⟨RX12, "breaches", "(I)I"⟩
abbrev cX12_breach : ByteArray := prog_14_method_85_code
def yX12_breach : MethodName := ⟨RX12, "breach", "(III)I"⟩
abbrev cX12_isAsked : ByteArray := prog_14_method_86_code
def yX12_isAsked : MethodName := ⟨RX12, "isAsked", "(III)Z"⟩
abbrev cX12_quarrelsOf : ByteArray := prog_14_method_87_code
def yX12_quarrelsOf : MethodName := ⟨RX12, "quarrelsOf", "(II)I"⟩
abbrev cX12_quarrel : ByteArray := prog_14_method_88_code
def yX12_quarrel : MethodName := ⟨RX12, "quarrel", "(III)I"⟩
abbrev cX12_wordOf : ByteArray := prog_14_method_89_code
def yX12_wordOf : MethodName := ⟨RX12, "wordOf", "(III)I"⟩
abbrev cX12_areTurnedAlike : ByteArray := prog_14_method_90_code
def yX12_areTurnedAlike : MethodName := ⟨RX12, "areTurnedAlike", "(IIII)Z"⟩
abbrev cX12_mustBeAlike : ByteArray := prog_14_method_91_code
def yX12_mustBeAlike : MethodName := ⟨RX12, "mustBeAlike", "(II)Z"⟩
abbrev cX12_isUnlike : ByteArray := prog_14_method_92_code
def yX12_isUnlike : MethodName := ⟨RX12, "isUnlike", "(IIII)Z"⟩
abbrev cX12_unlikes : ByteArray := prog_14_method_93_code
def yX12_unlikes : MethodName := ⟨RX12, "unlikes", "(I)I"⟩
abbrev cX12_unlike : ByteArray := prog_14_method_94_code
def yX12_unlike : MethodName := ⟨RX12, "unlike", "(II)I"⟩
abbrev cX12_placeOf : ByteArray := prog_14_method_95_code
def yX12_placeOf : MethodName := ⟨RX12, "placeOf", "(I)I"⟩
abbrev cX12_option : ByteArray := prog_14_method_96_code
def yX12_option : MethodName := ⟨RX12, "option", "(II)Z"⟩
abbrev cX12_apart : ByteArray := prog_14_method_97_code
def yX12_apart : MethodName := ⟨RX12, "apart", "(II)Z"⟩
abbrev cX12_bars : ByteArray := prog_14_method_98_code
def yX12_bars : MethodName := ⟨RX12, "bars", "(II)V"⟩
abbrev cX12_prices : ByteArray := prog_14_method_99_code
def yX12_prices : MethodName := ⟨RX12, "prices", "()V"⟩
abbrev cX12_digit : ByteArray := prog_14_method_100_code
def yX12_digit : MethodName := ⟨RX12, "digit", "(III)I"⟩
abbrev cX12_isChoice : ByteArray := prog_14_method_101_code
def yX12_isChoice : MethodName := ⟨RX12, "isChoice", "(I)Z"⟩
abbrev cX12_mayBe : ByteArray := prog_14_method_102_code
def yX12_mayBe : MethodName := ⟨RX12, "mayBe", "(I)Z"⟩
abbrev cX12_costOf : ByteArray := prog_14_method_103_code
def yX12_costOf : MethodName := ⟨RX12, "costOf", "(I)I"⟩
abbrev cX12_cost : ByteArray := prog_14_method_104_code
def yX12_cost : MethodName := ⟨RX12, "cost", "(I)I"⟩
abbrev cX12_isAhead : ByteArray := prog_14_method_105_code
def yX12_isAhead : MethodName := ⟨RX12, "isAhead", "(IIII)Z"⟩
abbrev cX12_one : ByteArray := prog_14_method_106_code
def yX12_one : MethodName := ⟨RX12, "one", "()I"⟩
abbrev cX12_isOff : ByteArray := prog_14_method_107_code
def yX12_isOff : MethodName := ⟨RX12, "isOff", "(I)Z"⟩
abbrev cX12_line : ByteArray := prog_14_method_108_code
def yX12_line : MethodName := ⟨RX12, "line", "(I)I"⟩
abbrev cX12_reads : ByteArray := prog_14_method_109_code
def yX12_reads : MethodName := ⟨RX12, "reads", "(IIIZ)Z"⟩
abbrev cX12_sizeOf : ByteArray := prog_14_method_110_code
def yX12_sizeOf : MethodName := ⟨RX12, "sizeOf", "(I)I"⟩
abbrev cX12_missed : ByteArray := prog_14_method_111_code
def yX12_missed : MethodName := ⟨RX12, "missed", "(I)I"⟩
abbrev cX12_changes : ByteArray := prog_14_method_112_code
def yX12_changes : MethodName := ⟨RX12, "changes", "(III)I"⟩
abbrev cX12_prints : ByteArray := prog_14_method_113_code
def yX12_prints : MethodName := ⟨RX12, "prints", "(I)V"⟩
abbrev cX12_printed : ByteArray := prog_14_method_114_code
def yX12_printed : MethodName := ⟨RX12, "printed", "(III)I"⟩
abbrev cX12_lists : ByteArray := prog_14_method_115_code
def yX12_lists : MethodName := ⟨RX12, "lists", "()V"⟩
abbrev cX12_up : ByteArray := prog_14_method_116_code
def yX12_up : MethodName := ⟨RX12, "up", "(II)I"⟩
abbrev cX12_daysBy : ByteArray := prog_14_method_117_code
def yX12_daysBy : MethodName := ⟨RX12, "daysBy", "(I)I"⟩
abbrev cX12_rows : ByteArray := prog_14_method_118_code
def yX12_rows : MethodName := ⟨RX12, "rows", "()I"⟩
abbrev cX12_bestRow : ByteArray := prog_14_method_119_code
def yX12_bestRow : MethodName := ⟨RX12, "bestRow", "()I"⟩
abbrev cX12_plan : ByteArray := prog_14_method_120_code
def yX12_plan : MethodName := ⟨RX12, "plan", "(I)I"⟩
abbrev cX12_judge : ByteArray := prog_14_method_121_code
def yX12_judge : MethodName := ⟨RX12, "judge", "(I)I"⟩
abbrev cX12_fixedVerse : ByteArray := prog_14_method_122_code
def yX12_fixedVerse : MethodName := ⟨RX12, "fixedVerse", "(I)I"⟩
abbrev cX12_check : ByteArray := prog_14_method_123_code
def yX12_check : MethodName := ⟨RX12, "check", "(I)I"⟩
abbrev cX12_leftOf : ByteArray := prog_14_method_124_code
def yX12_leftOf : MethodName := ⟨RX12, "leftOf", "(I)I"⟩
abbrev cX12_look : ByteArray := prog_14_method_125_code
def yX12_look : MethodName := ⟨RX12, "look", "(II)I"⟩
abbrev cX12_count : ByteArray := prog_14_method_126_code
def yX12_count : MethodName := ⟨RX12, "count", "(I)I"⟩
def RL : String := "VerseCommitteeLaw"
abbrev cL_law : ByteArray := code
def yL_law : MethodName := ⟨RL, "law", "([I)Z"⟩
abbrev classes : List vw_C := [(RX0, TX0, 14), (RX1, TX1, 13), (RX2, TX2, 11), (RX3, TX3, 7), (RX4, TX4, 8), (RX5, TX5, 10), (RX6, TX6, 14), (RX7, TX7, 14), (RX8, TX8, 7), (RX9, TX9, 6), (RX10, TX10, 3), (RX11, TX11, 14), (RX12, TX12, 96)]
end
section
/-! the tables' words that a callee may take over, in one list for all methods -/
def BIG : List Cond := lw_tbl.filter goodWord
theorem big_mem {w : Cond} (i : Nat) (h : lw_tbl[i]? = some w) (hg : goodWord w = true) : w ∈ BIG := List.mem_filter.mpr ⟨List.mem_of_getElem? h, hg⟩
theorem big_good {w : Cond} (h : w ∈ BIG) : goodWord w = true := (List.mem_filter.mp h).2
theorem big_in {ws : List Cond} (h : ∀ w ∈ ws, w ∈ BIG) : GoodIn BIG ws := fun w hw => ⟨h w hw, good_of_word (big_good (h w hw))⟩
theorem big_tbl {w : Cond} (h : w ∈ BIG) : w ∈ lw_tbl := (List.mem_filter.mp h).1
theorem in_places {ws : List Cond} (ps : List Nat) (h : ws = ps.filterMap (fun i => lw_tbl[i]?)) (hg : ws.all goodWord = true) : ∀ w ∈ ws, w ∈ BIG := by
  intro w hw
  have hg1 := List.all_eq_true.mp hg w hw
  rw [h] at hw
  obtain ⟨i, -, hi⟩ := List.mem_filterMap.mp hw
  exact big_mem i hi hg1
def WS (y : MethodName) (b : ByteArray) (n : Nat) (r : Option FieldType) : List Cond := Cond.code y b n r :: BIG
theorem ws_big {y : MethodName} {b : ByteArray} {n : Nat} {r : Option FieldType} (h : Cond.code y b n r ∈ BIG) : ∀ w ∈ WS y b n r, w ∈ BIG := by
  intro w hw
  rcases List.mem_cons.mp hw with h2 | h2
  · rw [h2]; exact h
  · exact h2
theorem ws_good {y : MethodName} {b : ByteArray} {n : Nat} {r : Option FieldType} (h : Cond.code y b n r ∈ BIG) : GoodIn BIG (WS y b n r) := big_in (ws_big h)
theorem good_V {own C : String} {idx : Nat} {y : MethodName} {b : ByteArray} {n : Nat} {r : Option FieldType} (h1 : Cond.methodLink own idx y ∈ BIG) (h2 : Cond.instanceMethod y ∈ BIG) (h3 : Cond.selects C y y ∈ BIG) (h4 : Cond.initialized C ∈ BIG) (h5 : Cond.code y b n r ∈ BIG) : GoodIn BIG (wsV own idx C y (WS y b n r)) := by
  refine big_in (fun w hw => ?_)
  rcases List.mem_append.mp hw with h | h
  · simp only [List.mem_cons, List.not_mem_nil, or_false] at h
    rcases h with rfl | rfl | rfl | rfl <;> assumption
  · exact ws_big h5 w h
theorem good_S {own : String} {idx : Nat} {y : MethodName} {b : ByteArray} {n : Nat} {r : Option FieldType} (h1 : Cond.methodLink own idx y ∈ BIG) (h2 : Cond.static y ∈ BIG) (h4 : Cond.initialized y.cls ∈ BIG) (h5 : Cond.code y b n r ∈ BIG) : GoodIn BIG (va_wsS own idx y (WS y b n r)) := by
  refine big_in (fun w hw => ?_)
  rcases List.mem_append.mp hw with h | h
  · simp only [List.mem_cons, List.not_mem_nil, or_false] at h
    rcases h with rfl | rfl | rfl <;> assumption
  · exact ws_big h5 w h
/-! the facts that no word list carries: nest mates, arrays of arrays, the static row of no ints -/
def NM : List (String × Nat × MethodName) := [(RX11, 18, yX10_init), (RX11, 25, yX9_init), (RX11, 32, yX4_init), (RX11, 39, yX2_init), (RX9, 37, yX11_isCopy), (RX10, 34, yX11_isEdition)]
def NX : List (String × Nat) := [(RX2, 60), (RX3, 9), (RX6, 9), (RX7, 9), (RX9, 40)]
def NF (U : State) : Prop := (∀ q ∈ NM, va_Nw (.methodLinkNest q.1 q.2.1 q.2.2 RX11) U) ∧ (∀ q ∈ NX, va_Nw (.fieldLinkNest q.1 q.2 RX11 "NOTHING" "[I" RX11) U) ∧ va_AO RX7 U ∧ va_Nw (.arrayOver (.array .int)) U
theorem AOA.moved {t : FieldType} {u U : State} (hvm : u.vm.Alike U.vm) (h : va_Nw (.arrayOver (.array t)) u) : va_Nw (.arrayOver (.array t)) U := by
  obtain ⟨comp, c, k, h1, h2, h3, h4, h5⟩ := arrayOverA_spec h
  obtain ⟨k', hk', he⟩ := hvm.2.2 _ _ h3
  have hi : (U.vm.classes.findIdx? fun (x : Class) => match x.kind with | .array component _ => component == comp | _ => false) = some c := by
    have e1 := va_idx_bare U.vm comp
    have e2 := va_idx_bare u.vm comp
    have hb : U.vm.bare = u.vm.bare := by first | exact hvm.bare_eq | exact hvm.bare_eq.symm
    rw [hb] at e1
    exact e1.symm.trans (e2.trans h2)
  have hkind : k'.kind = .array comp (.array t) := by rw [he]; exact h4
  have f1 : U.vm.findClass (FieldType.array t).toString = some comp := by rw [hvm.findClass]; exact h1
  have f2 : U.vm.findClass ("[" ++ (FieldType.array t).toString) = some c := by rw [hvm.findClass]; exact h5
  unfold va_Nw Cond.before Cond.holds
  simp only [Cond.value]
  rw [f1, Option.bind_some]
  refine (congrArg (fun o : Option Nat => (o.bind (fun c => (U.vm.classes[c]?).map fun (k : Class) => match k.kind with | .array _ ty => decide (ty = FieldType.array t) && decide (U.vm.findClass ("[" ++ (FieldType.array t).toString) = some c) | _ => false) == some true)) hi).trans ?_
  simp [hk', hkind, f2]
theorem NF.warm {s U : State} (hW : s.WarmedH U.vm) (h : NF s) : NF U :=
  ⟨fun q hq => va_Nw.warmM hW (h.1 q hq), fun q hq => va_Nw.warmF hW (h.2.1 q hq), h.2.2.1.moved hW.alike, AOA.moved hW.alike h.2.2.2⟩
theorem NF.same {u U : State} (hvm : u.vm = U.vm) (h : NF u) : NF U :=
  ⟨fun q hq => va_Nw.same rfl hvm (h.1 q hq), fun q hq => va_Nw.same rfl hvm (h.2.1 q hq), h.2.2.1.moved (by rw [hvm]; exact Vm.Alike.refl _), AOA.moved (by rw [hvm]; exact Vm.Alike.refl _) h.2.2.2⟩
def FC (D : va_G) (T : List (ClassId × FieldType)) (tN : Nat) (A : Nat → Prop) (U : State) : Prop := va_K D classes T U ∧ NF U ∧ va_Z RX11 "NOTHING" "[I" (.ref tN) A U U.heap ∧ va_T .int tN 0 (fun _ => .int 0) A U U.heap
theorem FC.call {D : va_G} {T : List (ClassId × FieldType)} {tN : Nat} {A A1 : Nat → Prop} {s U : State} {H : Heap} {locs : List Loc} (h : FC D T tN A s) (hS : va_S A s.heap H locs) (hU : U.heap = H) (hW : s.WarmedH U.vm) (hF : ∀ q, A1 q → A q) : FC D T tN A1 U := by
  subst hU
  exact ⟨va_K.moved hW.alike h.1, NF.warm hW h.2.1, ((va_Z.moved hW.alike h.2.2.1).kept (fun a h1 h2 => hS.2.1 a h1 h2)).narrow hF, ((va_T.moved hW.alike h.2.2.2).kept (fun a h1 h2 => hS.2.1 a h1 h2)).narrow hF⟩
theorem FC.blind {D : va_G} {T : List (ClassId × FieldType)} {tN : Nat} {A : Nat → Prop} {U : State} (g : JFrame) (mk : MethodId) (a : Array Value) (h : FC D T tN A U) : FC D T tN A (U.calling g mk a) :=
  ⟨va_K.moved (u := U) (U := U.calling g mk a) (Vm.Alike.refl U.vm) h.1, NF.same (u := U) (U := U.calling g mk a) rfl h.2.1, va_Z.moved (u := U) (U := U.calling g mk a) (Vm.Alike.refl U.vm) h.2.2.1, va_T.moved (u := U) (U := U.calling g mk a) (Vm.Alike.refl U.vm) h.2.2.2⟩
/-! a method's world, its start and its end -/
def Hp (D : va_G) (A : Nat → Prop) (H0 : Heap) (ws : va_W) (H : Heap) (locs : List Loc) : Prop := va_P D classes ws H ∧ va_D A ws ∧ va_S A H0 H locs
def PcW (D : va_G) (T : List (ClassId × FieldType)) (tN : Nat) (As : List Value) (ws : va_W) (sz : Nat) : Array Value → State → Prop := va_Pc As (fun U => U.heap.size = sz ∧ va_P D classes ws U.heap ∧ FC D T tN (va_A ws sz) U ∧ va_D (fun _ => True) ws)
def BW {S : Type} (D : va_G) (A : Nat → Prop) (W' : S → va_W) : S → State → Prop := fun u t => va_P D classes (W' u) t.heap ∧ va_D A (W' u)
theorem PcW.blind {D : va_G} {T : List (ClassId × FieldType)} {tN : Nat} {As : List Value} {ws : va_W} {sz : Nat} : FrameBlind (PcW D T tN As ws sz) := by
  intro a U g mk h
  obtain ⟨q0, q1, qP, qK, qD⟩ := h
  exact ⟨q0, q1, qP, qK.blind g mk a, qD⟩
def MI {S : Type} (l : Launch) (D : va_G) (T : List (ClassId × FieldType)) (tN : Nat) (y : MethodName) (b : ByteArray) (n : Nat) (r : Option FieldType) (rm : Room) (As : List Value) (ws : va_W) (post : Int32 → S → Prop) (W' : S → va_W) (mc ms : Nat) : Prop :=
  ∀ sz : Nat, Met l y (WS y b n r) rm (PcW D T tN As ws sz) (va_Qi post (BW D (va_A ws sz) W') (va_A ws sz)) mc ms (va_A ws sz)
def MV {S : Type} (l : Launch) (D : va_G) (T : List (ClassId × FieldType)) (tN : Nat) (y : MethodName) (b : ByteArray) (n : Nat) (rm : Room) (As : List Value) (ws : va_W) (post : S → Prop) (W' : S → va_W) (mc ms : Nat) : Prop :=
  ∀ sz : Nat, Met l y (WS y b n none) rm (PcW D T tN As ws sz) (va_Qv post (BW D (va_A ws sz) W') (va_A ws sz)) mc ms (va_A ws sz)
def MQ9 {S : Type} (l : Launch) (D : va_G) (T : List (ClassId × FieldType)) (tN : Nat) (y : MethodName) (b : ByteArray) (n : Nat) (r : Option FieldType) (rm : Room) (As : List Value) (ws : va_W) (post : Option Nat → S → Prop) (W' : S → va_W) (mc ms : Nat) : Prop :=
  ∀ sz : Nat, Met l y (WS y b n r) rm (PcW D T tN As ws sz) (va_Qq post (BW D (va_A ws sz) W') (va_A ws sz)) mc ms (va_A ws sz)
/-- what stands through a whole walk -/
def Ev (p : Program) (s : State) (m : MethodId) (args : Array Value) (c : Code) (own : String) (nL : Nat) (cc : ByteArray) (D : va_G) (T : List (ClassId × FieldType)) (tN : Nat) (A : Nat → Prop) : Prop :=
  CallFix p m c cc nL s args BIG own ∧ FC D T tN A s ∧ ∀ q, s.heap.size ≤ q → A q
theorem Met.ofE {l : Launch} {D : va_G} {T : List (ClassId × FieldType)} {tN : Nat} {y : MethodName} {b : ByteArray} {n : Nat} {r : Option FieldType} {rm : Room} {As : List Value} {ws : va_W} {sz mc ms : Nat} {Qc : (Nat → Prop) → Array Value → State → Outcome → State → Prop} (hy : plainName y.cls = true) (hn : (lg_sl As).length ≤ n)
    (body : ∀ (p : Program) (e : Env) (s : State) (m : MethodId) (args : Array Value) (below : List Frame) (meth : Method) (c : Code) (A : Nat → Prop) (ls : Array Slot), s.heap.size = sz → Ev p s m args c y.cls n b D T tN A → meth.sig.returnType = r → meth.locks = false → (y.name = meth.name) → Hp D A s.heap ws s.heap [] → lv_has ls n (lv_args 0 As) → W p l e rm s m args below meth c s.heap [] 0 0 (MQ below (Qc A) args s mc ms A) (F0 m 0 ls [])) :
    Met l y (WS y b n r) rm (PcW D T tN As ws sz) (Qc (va_A ws sz)) mc ms (va_A ws sz) := by
  refine Met.ofW (cc := b) (maxL := n) (ret := r) (ws' := BIG) hy rfl ?_
  intro p e s m args below meth c s₁ B hml hv
  obtain ⟨hargs, hsz, hP, hK, hD0⟩ := hv
  have hts := atoms_spec (ws := WS y b n r) B.pre
  have hown : s.vm.findClass y.cls = some m.cls := findClass_of_methodNamed B.named
  have hl := lv_entry As (n := n) hn
  have hnm : y.name = meth.name := ((name_of_methodNamed B.named B.method).1).symm
  rw [show entryFrame m args n = entryFrame m As.toArray n by rw [hargs], lg_entry_eq]
  refine body p e s m args below meth c (va_A ws sz) _ hsz ⟨⟨B.exec, B.bytes, hml, hown, fun w hw => hts w (List.mem_cons_of_mem _ hw)⟩, hK, fun q h => Or.inr (by rw [← hsz]; exact h)⟩ B.returns B.notSynchronized hnm ⟨hP, hD0.self, va_S.rf⟩ hl
section CALLS
variable {p : Program} {l : Launch} {e : Env} {R : Room} {s : State} {m : MethodId} {args : Array Value} {below : List Frame} {meth : Method} {c : Code} {H : Heap} {locs : List Loc} {cells slots : Nat} {Q : State → Prop}
variable {cc : ByteArray} {pc : Nat} {ls : Array Slot} {rest st As : List Value} {D : va_G} {T : List (ClassId × FieldType)} {A : Nat → Prop} {wc : va_W} {own C : String} {nL tN : Nat} {S : Type} {y : MethodName} {b : ByteArray} {n k kn idx mc ms a : Nat} {r : Option FieldType} {rm : Room} {W' : S → va_W} {TT : u_T} {NN : Nat} {lv : List (Nat × Value)}
theorem Hp.free (B : Hp D A s.heap wc H locs) (hA : ∀ q, s.heap.size ≤ q → A q) : ∀ q, va_A wc H.size q → A q := by
  intro q h
  rcases h with ⟨k, e, h⟩ | h
  · exact B.2.1.2 k (q, e) h
  · exact hA q (Nat.le_trans B.2.2.1 h)
theorem preV (E : Ev p s m args c own nL cc D T tN A) (B : Hp D A s.heap wc H locs) (q0 : Nat) {ci : Nat} {fs : List Value} (he : wc[q0]? = some (a, .inr (ci, fs))) (hc : classes[ci]? = some (C, TT, NN)) : PreV s H C a (PcW D T tN (.ref a :: As) wc H.size) As :=
  ⟨PcW.blind, va_recv E.2.1.1 B.1 hc he, fun U hU hW => ⟨rfl, by rw [hU], by rw [hU]; exact B.1, E.2.1.call B.2.2 hU hW (B.free E.2.2), B.2.1.weaken (fun _ _ _ _ => trivial)⟩⟩
theorem preS (E : Ev p s m args c own nL cc D T tN A) (B : Hp D A s.heap wc H locs) : PreS s H (PcW D T tN As wc H.size) As :=
  ⟨PcW.blind, fun U hU hW => ⟨rfl, by rw [hU], by rw [hU]; exact B.1, E.2.1.call B.2.2 hU hW (B.free E.2.2), B.2.1.weaken (fun _ _ _ _ => trivial)⟩⟩
theorem call_VI {post : Int32 → S → Prop} (E : Ev p s m args c own nL cc D T tN A) (B : Hp D A s.heap wc H locs) (M : MI l D T tN y b n r rm (.ref a :: As) wc post W' mc ms) (G : GoodIn BIG (wsV own idx C y (WS y b n r))) (q0 : Nat) {ci : Nat} {fs : List Value} (he : wc[q0]? = some (a, .inr (ci, fs))) (hc : classes[ci]? = some (C, TT, NN))
    (hd : y.cls = C ∧ y.cls ≠ "java/lang/invoke/MethodHandle" ∧ y.cls ≠ "java/lang/invoke/VarHandle" ∧ (parseMethodDescriptor y.desc).map (fun d => d.parameters.length) = some kn) (hkn : As.length = kn) (hrc : rm.cells = mc) (hrs : rm.slots = ms) (hR : rm.frames + 1 ≤ R.frames ∧ 8 + (n + 11) + rm.locals ≤ R.locals) (hst : st = As.reverse ++ .ref a :: rest) (hls : lv_has ls nL lv) (hroom : (rest.map fun v => v.category).sum ≤ 8) (hdg : decode cc pc = .ok (.invokevirtual idx, 3)) (hf : cells + mc ≤ R.cells ∧ slots + ms ≤ R.slots)
    (kk : ∀ (v : Int32) (u : S) (H1 : Heap) (locs1 : List Loc), post v u → Hp D A s.heap (W' u) H1 locs1 → W p l e R s m args below meth c H1 locs1 (cells + mc) (slots + ms) Q (F0 m (pc + 3) ls (.int v :: rest))) : W p l e R s m args below meth c H locs cells slots Q (F0 m pc ls st) := by
  subst hkn
  have hF := B.free E.2.2
  refine va_calli (va_runV (As := As) (rest := rest) E.1 (M H.size) (cwV As.length E.1.2.2.2.2 G rfl hrc hrs hd hR) (preV E B q0 he hc) rfl rfl hls.1 hst (lv_room hroom) hdg hf) B.2.2 (fun q _ h => hF q h) hF ?_
  intro v u t H1 locs1 ht hvm hw hB hz1 hk1 hS
  exact kk v u H1 locs1 hw ⟨by rw [← ht]; exact hB.1, hB.2.weaken (fun _ q _ h => hF q.1 h), hS⟩
theorem call_VV {post : S → Prop} (E : Ev p s m args c own nL cc D T tN A) (B : Hp D A s.heap wc H locs) (M : MV l D T tN y b n rm (.ref a :: As) wc post W' mc ms) (G : GoodIn BIG (wsV own idx C y (WS y b n none))) (q0 : Nat) {ci : Nat} {fs : List Value} (he : wc[q0]? = some (a, .inr (ci, fs))) (hc : classes[ci]? = some (C, TT, NN))
    (hd : y.cls = C ∧ y.cls ≠ "java/lang/invoke/MethodHandle" ∧ y.cls ≠ "java/lang/invoke/VarHandle" ∧ (parseMethodDescriptor y.desc).map (fun d => d.parameters.length) = some kn) (hkn : As.length = kn) (hrc : rm.cells = mc) (hrs : rm.slots = ms) (hR : rm.frames + 1 ≤ R.frames ∧ 8 + (n + 11) + rm.locals ≤ R.locals) (hst : st = As.reverse ++ .ref a :: rest) (hls : lv_has ls nL lv) (hroom : (rest.map fun v => v.category).sum ≤ 8) (hdg : decode cc pc = .ok (.invokevirtual idx, 3)) (hf : cells + mc ≤ R.cells ∧ slots + ms ≤ R.slots)
    (kk : ∀ (u : S) (H1 : Heap) (locs1 : List Loc), post u → Hp D A s.heap (W' u) H1 locs1 → W p l e R s m args below meth c H1 locs1 (cells + mc) (slots + ms) Q (F0 m (pc + 3) ls rest)) : W p l e R s m args below meth c H locs cells slots Q (F0 m pc ls st) := by
  subst hkn
  have hF := B.free E.2.2
  refine va_callv (va_runV (As := As) (rest := rest) E.1 (M H.size) (cwV As.length E.1.2.2.2.2 G rfl hrc hrs hd hR) (preV E B q0 he hc) rfl rfl hls.1 hst (lv_room hroom) hdg hf) B.2.2 (fun q _ h => hF q h) hF ?_
  intro u t H1 locs1 ht hvm hw hB hz1 hk1 hS
  exact kk u H1 locs1 hw ⟨by rw [← ht]; exact hB.1, hB.2.weaken (fun _ q _ h => hF q.1 h), hS⟩
theorem call_VQ {post : Option Nat → S → Prop} (E : Ev p s m args c own nL cc D T tN A) (B : Hp D A s.heap wc H locs) (M : MQ9 l D T tN y b n r rm (.ref a :: As) wc post W' mc ms) (G : GoodIn BIG (wsV own idx C y (WS y b n r))) (q0 : Nat) {ci : Nat} {fs : List Value} (he : wc[q0]? = some (a, .inr (ci, fs))) (hc : classes[ci]? = some (C, TT, NN))
    (hd : y.cls = C ∧ y.cls ≠ "java/lang/invoke/MethodHandle" ∧ y.cls ≠ "java/lang/invoke/VarHandle" ∧ (parseMethodDescriptor y.desc).map (fun d => d.parameters.length) = some kn) (hkn : As.length = kn) (hrc : rm.cells = mc) (hrs : rm.slots = ms) (hR : rm.frames + 1 ≤ R.frames ∧ 8 + (n + 11) + rm.locals ≤ R.locals) (hst : st = As.reverse ++ .ref a :: rest) (hls : lv_has ls nL lv) (hroom : (rest.map fun v => v.category).sum ≤ 8) (hdg : decode cc pc = .ok (.invokevirtual idx, 3)) (hf : cells + mc ≤ R.cells ∧ slots + ms ≤ R.slots)
    (kk : ∀ (v : Option Nat) (u : S) (H1 : Heap) (locs1 : List Loc), post v u → Hp D A s.heap (W' u) H1 locs1 → W p l e R s m args below meth c H1 locs1 (cells + mc) (slots + ms) Q (F0 m (pc + 3) ls (va_rf v :: rest))) : W p l e R s m args below meth c H locs cells slots Q (F0 m pc ls st) := by
  subst hkn
  have hF := B.free E.2.2
  refine va_callq (va_runV (As := As) (rest := rest) E.1 (M H.size) (cwV As.length E.1.2.2.2.2 G rfl hrc hrs hd hR) (preV E B q0 he hc) rfl rfl hls.1 hst (lv_room hroom) hdg hf) B.2.2 (fun q _ h => hF q h) hF ?_
  intro v u t H1 locs1 ht hvm hw hB hz1 hk1 hS
  exact kk v u H1 locs1 hw ⟨by rw [← ht]; exact hB.1, hB.2.weaken (fun _ q _ h => hF q.1 h), hS⟩
theorem call_SI {post : Int32 → S → Prop} (E : Ev p s m args c own nL cc D T tN A) (B : Hp D A s.heap wc H locs) (M : MI l D T tN y b n r rm As wc post W' mc ms) (G : GoodIn BIG (va_wsS own idx y (WS y b n r)))
    (hd : y.cls ≠ "java/lang/invoke/MethodHandle" ∧ y.cls ≠ "java/lang/invoke/VarHandle" ∧ (parseMethodDescriptor y.desc).map (fun d => d.parameters.length) = some kn) (hkn : As.length = kn) (hrc : rm.cells = mc) (hrs : rm.slots = ms) (hR : rm.frames + 1 ≤ R.frames ∧ 8 + (n + 11) + rm.locals ≤ R.locals) (hst : st = As.reverse ++ rest) (hls : lv_has ls nL lv) (hroom : (rest.map fun v => v.category).sum ≤ 8) (hdg : decode cc pc = .ok (.invokestatic idx, 3)) (hf : cells + mc ≤ R.cells ∧ slots + ms ≤ R.slots)
    (kk : ∀ (v : Int32) (u : S) (H1 : Heap) (locs1 : List Loc), post v u → Hp D A s.heap (W' u) H1 locs1 → W p l e R s m args below meth c H1 locs1 (cells + mc) (slots + ms) Q (F0 m (pc + 3) ls (.int v :: rest))) : W p l e R s m args below meth c H locs cells slots Q (F0 m pc ls st) := by
  subst hkn
  have hF := B.free E.2.2
  refine va_calli (va_runS (As := As) (rest := rest) E.1 (M H.size) (va_cwS As.length E.1.2.2.2.2 G rfl hrc hrs hd hR) (preS E B) rfl rfl hls.1 hst (lv_room hroom) hdg hf) B.2.2 (fun q _ h => hF q h) hF ?_
  intro v u t H1 locs1 ht hvm hw hB hz1 hk1 hS
  exact kk v u H1 locs1 hw ⟨by rw [← ht]; exact hB.1, hB.2.weaken (fun _ q _ h => hF q.1 h), hS⟩
/-- a constructor of a class that is no nest mate's private one -/
theorem call_IV {post : S → Prop} (E : Ev p s m args c own nL cc D T tN A) (B : Hp D A s.heap wc H locs) (M : MV l D T tN y b n rm (.ref a :: As) wc post W' mc ms) (G : GoodIn BIG (WS y b n none)) (h4 : Cond.initialized y.cls ∈ BIG) (h1 : Cond.methodLink own idx y ∈ BIG) (h2 : Cond.instanceMethod y ∈ BIG) (hi : y.name = "<init>")
    (hd : y.cls ≠ "java/lang/invoke/MethodHandle" ∧ y.cls ≠ "java/lang/invoke/VarHandle" ∧ (parseMethodDescriptor y.desc).map (fun d => d.parameters.length) = some kn) (hkn : As.length = kn) (hrc : rm.cells = mc) (hrs : rm.slots = ms) (hR : rm.frames + 1 ≤ R.frames ∧ 8 + (n + 11) + rm.locals ≤ R.locals) (hst : st = As.reverse ++ .ref a :: rest) (hls : lv_has ls nL lv) (hroom : (rest.map fun v => v.category).sum ≤ 8) (hdg : decode cc pc = .ok (.invokespecial idx, 3)) (hf : cells + mc ≤ R.cells ∧ slots + ms ≤ R.slots)
    (kk : ∀ (u : S) (H1 : Heap) (locs1 : List Loc), post u → Hp D A s.heap (W' u) H1 locs1 → W p l e R s m args below meth c H1 locs1 (cells + mc) (slots + ms) Q (F0 m (pc + 3) ls rest)) : W p l e R s m args below meth c H locs cells slots Q (F0 m pc ls st) := by
  subst hkn
  have hF := B.free E.2.2
  have hts := E.1.2.2.2.2
  refine va_callv (va_runI (As := As) (rest := rest) E.1 (M H.size) (cwI As.length hts G rfl hrc hrs (hts _ h4) (hts _ h1) (hts _ h2) hi hd hR) (preS (As := .ref a :: As) E B) rfl rfl hls.1 hst (lv_room hroom) hdg hf) B.2.2 (fun q _ h => hF q h) hF ?_
  intro u t H1 locs1 ht hvm hw hB hz1 hk1 hS
  exact kk u H1 locs1 hw ⟨by rw [← ht]; exact hB.1, hB.2.weaken (fun _ q _ h => hF q.1 h), hS⟩
/-- a nest mate's private constructor -/
theorem call_IVN {post : S → Prop} (E : Ev p s m args c own nL cc D T tN A) (B : Hp D A s.heap wc H locs) (M : MV l D T tN y b n rm (.ref a :: As) wc post W' mc ms) (G : GoodIn BIG (WS y b n none)) (h4 : Cond.initialized y.cls ∈ BIG) (h1 : (own, idx, y) ∈ NM) (h2 : Cond.instanceMethod y ∈ BIG) (hi : y.name = "<init>")
    (hd : y.cls ≠ "java/lang/invoke/MethodHandle" ∧ y.cls ≠ "java/lang/invoke/VarHandle" ∧ (parseMethodDescriptor y.desc).map (fun d => d.parameters.length) = some kn) (hkn : As.length = kn) (hrc : rm.cells = mc) (hrs : rm.slots = ms) (hR : rm.frames + 1 ≤ R.frames ∧ 8 + (n + 11) + rm.locals ≤ R.locals) (hst : st = As.reverse ++ .ref a :: rest) (hls : lv_has ls nL lv) (hroom : (rest.map fun v => v.category).sum ≤ 8) (hdg : decode cc pc = .ok (.invokespecial idx, 3)) (hf : cells + mc ≤ R.cells ∧ slots + ms ≤ R.slots)
    (kk : ∀ (u : S) (H1 : Heap) (locs1 : List Loc), post u → Hp D A s.heap (W' u) H1 locs1 → W p l e R s m args below meth c H1 locs1 (cells + mc) (slots + ms) Q (F0 m (pc + 3) ls rest)) : W p l e R s m args below meth c H locs cells slots Q (F0 m pc ls st) := by
  subst hkn
  have hF := B.free E.2.2
  have hts := E.1.2.2.2.2
  refine va_callv (va_runIN (As := As) (rest := rest) (host := RX11) E.1 (M H.size) ⟨va_cnB As.length hts G rfl hrc hrs (E.2.1.2.1.1 _ h1) (hts _ h4) hd hR, hi, hts _ h2⟩ (preS (As := .ref a :: As) E B) rfl rfl hls.1 hst (lv_room hroom) hdg hf) B.2.2 (fun q _ h => hF q h) hF ?_
  intro u t H1 locs1 ht hvm hw hB hz1 hk1 hS
  exact kk u H1 locs1 hw ⟨by rw [← ht]; exact hB.1, hB.2.weaken (fun _ q _ h => hF q.1 h), hS⟩
/-! the ends -/
theorem ret_I {post : Int32 → S → Prop} {v : Int32} {ty : FieldType} (E : Ev p s m args c own nL cc D T tN A) (hr : meth.sig.returnType = some ty) (hlocks : meth.locks = false) (hn : narrow ty (.int v) = .int v) {u : S} (B : Hp D A s.heap (W' u) H locs) (hp : post v u) (hdg : decode cc pc = .ok (.ireturn, 1)) : W p l e R s m args below meth c H locs cells slots (MQ below (va_Qi post (BW D A W') A) args s cells slots A) (F0 m pc ls [.int v]) :=
  W.zret E.1.1 E.1.2.1 hr hn (fun t ht hW => ⟨⟨v, u, rfl, hp, by rw [ht]; exact B.1, B.2.1⟩, B.2.2.F ht⟩) B.2.2.2.2 hdg (hlocks := hlocks)
theorem ret_V {post : S → Prop} (E : Ev p s m args c own nL cc D T tN A) (hr : meth.sig.returnType = none) (hlocks : meth.locks = false) {u : S} (B : Hp D A s.heap (W' u) H locs) (hp : post u) (hdg : decode cc pc = .ok (.return_, 1)) : W p l e R s m args below meth c H locs cells slots (MQ below (va_Qv post (BW D A W') A) args s cells slots A) (F0 m pc ls []) :=
  W.vret E.1.1 E.1.2.1 hr (fun t ht hW => ⟨⟨u, rfl, hp, by rw [ht]; exact B.1, B.2.1⟩, B.2.2.F ht⟩) B.2.2.2.2 hdg (hlocks := hlocks)
end CALLS
end
section
/-! rows over a world: fields, arrays, new cells -/
def TY (ct : Nat → ClassId) : List (ClassId × FieldType) := [(ct 0, .int), (ct 1, .byte), (ct 2, .long), (ct 3, .boolean), (ct 4, .array .int), (ct 5, .object RX7)]
theorem at_p (ws l : va_W) (k : Nat) : (ws ++ l)[ws.length + k]? = l[k]? := by
  rw [List.getElem?_append_right (by omega)]
  congr 1
  omega
theorem set_p (ws l : va_W) (k : Nat) (x : Nat × va_E) : (ws ++ l).set (ws.length + k) x = ws ++ l.set k x := by
  rw [List.set_append_right _ _ (by omega)]
  congr 2
  omega
theorem ra_eq {s : State} {c1 c2 : ClassId} {ty : FieldType} (h1 : va_RA s c1 ty) (h2 : va_RA s c2 ty) : c1 = c2 := by
  cases ty with
  | object C =>
    obtain ⟨_, _, _, _, _, e1⟩ := h1
    obtain ⟨_, _, _, _, _, e2⟩ := h2
    exact Option.some.inj (e1.symm.trans e2)
  | _ => exact Option.some.inj (Eq.trans (Eq.symm h1) h2)
theorem toInt_add {x y : Int32} {a b : Int} (hx : x.toInt = a) (hy : y.toInt = b) (h1 : -2147483648 ≤ a + b) (h2 : a + b ≤ 2147483647) : (x + y).toInt = a + b := by
  rw [Int32.toInt_add, hx, hy, Int.bmod_def]
  omega
theorem toInt_sub {x y : Int32} {a b : Int} (hx : x.toInt = a) (hy : y.toInt = b) (h1 : -2147483648 ≤ a - b) (h2 : a - b ≤ 2147483647) : (x - y).toInt = a - b := by
  rw [Int32.toInt_sub, hx, hy, Int.bmod_def]
  omega
theorem toInt_mul {x y : Int32} {a b z : Int} (hx : x.toInt = a) (hy : y.toInt = b) (hz : a * b = z) (h1 : -2147483648 ≤ z) (h2 : z ≤ 2147483647) : (x * y).toInt = z := by
  rw [Int32.toInt_mul, hx, hy, hz, Int.bmod_def]
  omega
theorem vp_of {x : Int32} {a : Int} {n : Nat} (hx : x.toInt = a) (h1 : 0 ≤ a) (h2 : a < n) : vp_in x n := vp_in_iff.mpr ⟨by rw [hx]; exact h1, by rw [hx]; exact h2⟩
theorem clamp_i {x : Int32} {a : Nat} (hx : x.toInt = (a : Int)) : x.toNatClampNeg = a := by
  show x.toInt.toNat = a
  rw [hx]
  exact Int.toNat_natCast a
theorem eq_of_toInt {x y : Int32} (h : x.toInt = y.toInt) : x = y := Int32.toInt_inj.mp h
theorem ne_of_toInt {x y : Int32} (h : ¬ x = y) : ¬ x.toInt = y.toInt := fun e => h (Int32.toInt_inj.mp e)
theorem narrow_z {v : Int32} (h : v.toInt = 0 ∨ v.toInt = 1) : narrow .boolean (.int v) = .int v := by
  rcases h with h | h
  · rw [show v = 0 from eq_of_toInt h]; rfl
  · rw [show v = 1 from eq_of_toInt h]; rfl
section ROWS
variable {p : Program} {l : Launch} {e : Env} {R : Room} {s : State} {m : MethodId} {args : Array Value} {below : List Frame} {meth : Method} {c : Code} {H : Heap} {locs : List Loc} {cells slots : Nat} {Q : State → Prop}
variable {cc : ByteArray} {pc : Nat} {ls : Array Slot} {rest : List Value} {D : va_G} {ct : Nat → ClassId} {A : Nat → Prop} {ws : va_W} {own : String} {nL tN a : Nat} {TT : u_T} {NN ci idx : Nat} {C : String} {fs : List Value}
theorem row_get (E : Ev p s m args c own nL cc D (TY ct) tN A) (B : Hp D A s.heap ws H locs) (hin : ∀ w ∈ u_ws C TT NN, w ∈ BIG) (hc : classes[ci]? = some (C, TT, NN)) (k : Nat) (hk : k < NN) (hm : Cond.fieldLink own idx (TT k).1 (TT k).2.1 (TT k).2.2.1 ∈ BIG) (q0 : Nat) (he : ws[q0]? = some (a, .inr (ci, fs))) {v : Value} (hv : fs[k]? = some v) (hdg : decode cc pc = .ok (.getfield idx, 3))
    (kk : W p l e R s m args below meth c H locs cells slots Q (F0 m (pc + 3) ls (v :: rest))) : W p l e R s m args below meth c H locs cells slots Q (F0 m pc ls (.ref a :: rest)) :=
  va_get E.1.1 E.1.2.1 E.1.2.2.2.2 hin E.1.2.2.2.1 E.2.1.1 B.1 q0 he hc k hk (E.1.2.2.2.2 _ hm) (fun _ h => h) hv hdg kk
theorem row_put (E : Ev p s m args c own nL cc D (TY ct) tN A) (B : Hp D A s.heap ws H locs) (hin : ∀ w ∈ u_ws C TT NN, w ∈ BIG) (hc : classes[ci]? = some (C, TT, NN)) (ty0 : Nat → FieldType) (hty : ∀ k, k < NN → parseFieldDescriptor (TT k).2.2.1 = some (ty0 k)) (hnm : ∀ a, a < NN → ∀ b, b < NN → a ≠ b → (TT a).2.1 ≠ (TT b).2.1) (k : Nat) (hk : k < NN) (hm : Cond.fieldLink own idx (TT k).1 (TT k).2.1 (TT k).2.2.1 ∈ BIG) (hfin : (TT k).2.2.2 = false) (q0 : Nat) (he : ws[q0]? = some (a, .inr (ci, fs))) {v : Value} (hn : narrow (ty0 k) v = v) (hfit : fits (ty0 k) v = true) (hl : k < fs.length) (hdg : decode cc pc = .ok (.putfield idx, 3))
    (kk : ∀ (H1 : Heap) (locs1 : List Loc), Hp D A s.heap (ws.set q0 (a, .inr (ci, fs.set k v))) H1 locs1 → W p l e R s m args below meth c H1 locs1 cells slots Q (F0 m (pc + 3) ls rest)) : W p l e R s m args below meth c H locs cells slots Q (F0 m pc ls (v :: .ref a :: rest)) :=
  va_put E.1.1 E.1.2.1 E.1.2.2.2.2 hin ty0 hty hnm E.1.2.2.2.1 E.2.1.1 B.1 B.2.1 B.2.2 q0 he hc k hk (E.1.2.2.2.2 _ hm) (fun _ h => h) hfin (hty k hk) hn hfit hl hdg (fun H1 locs1 h1 h2 h3 => kk H1 locs1 ⟨h1, h2, h3⟩)
theorem row_putF (E : Ev p s m args c own nL cc D (TY ct) tN A) (B : Hp D A s.heap ws H locs) (hin : ∀ w ∈ u_ws C TT NN, w ∈ BIG) (hc : classes[ci]? = some (C, TT, NN)) (ty0 : Nat → FieldType) (hty : ∀ k, k < NN → parseFieldDescriptor (TT k).2.2.1 = some (ty0 k)) (hnm : ∀ a, a < NN → ∀ b, b < NN → a ≠ b → (TT a).2.1 ≠ (TT b).2.1) (k : Nat) (hk : k < NN) (hm : Cond.fieldLink own idx (TT k).1 (TT k).2.1 (TT k).2.2.1 ∈ BIG) (hfin : (TT k).2.2.2 = true) (hin2 : "<init>" = meth.name) (hdecl : (TT k).1 = own) (q0 : Nat) (he : ws[q0]? = some (a, .inr (ci, fs))) {v : Value} (hn : narrow (ty0 k) v = v) (hfit : fits (ty0 k) v = true) (hl : k < fs.length) (hdg : decode cc pc = .ok (.putfield idx, 3))
    (kk : ∀ (H1 : Heap) (locs1 : List Loc), Hp D A s.heap (ws.set q0 (a, .inr (ci, fs.set k v))) H1 locs1 → W p l e R s m args below meth c H1 locs1 cells slots Q (F0 m (pc + 3) ls rest)) : W p l e R s m args below meth c H locs cells slots Q (F0 m pc ls (v :: .ref a :: rest)) :=
  va_putF E.1.1 E.1.2.1 E.1.2.2.2.2 hin ty0 hty hnm E.1.2.2.2.1 E.2.1.1 B.1 B.2.1 B.2.2 q0 he hc k hk (E.1.2.2.2.2 _ hm) (fun _ h => h) hfin hin2.symm hdecl (hty k hk) hn hfit hl hdg (fun H1 locs1 h1 h2 h3 => kk H1 locs1 ⟨h1, h2, h3⟩)
theorem row_iald (E : Ev p s m args c own nL cc D (TY ct) tN A) (B : Hp D A s.heap ws H locs) (q0 : Nat) {n : Nat} {f : Nat → Int32} (ha : ws[q0]? = some (a, .inl (ct 0, n, .inl f))) {i : Int32} (hin : vp_in i n) (hdg : decode cc pc = .ok (.iaload, 1))
    (kk : W p l e R s m args below meth c H locs cells slots Q (F0 m (pc + 1) ls (.int (f i.toNatClampNeg) :: rest))) : W p l e R s m args below meth c H locs cells slots Q (F0 m pc ls (.int i :: .ref a :: rest)) := va_iald E.1.1 E.1.2.1 E.2.1.1 B.1 q0 0 ha rfl hin hdg kk
theorem row_bald (E : Ev p s m args c own nL cc D (TY ct) tN A) (B : Hp D A s.heap ws H locs) (q0 : Nat) {n : Nat} {f : Nat → Int32} (ha : ws[q0]? = some (a, .inl (ct 1, n, .inl f))) {i : Int32} (hin : vp_in i n) (hdg : decode cc pc = .ok (.baload, 1))
    (kk : W p l e R s m args below meth c H locs cells slots Q (F0 m (pc + 1) ls (.int (f i.toNatClampNeg) :: rest))) : W p l e R s m args below meth c H locs cells slots Q (F0 m pc ls (.int i :: .ref a :: rest)) := va_bald E.1.1 E.1.2.1 E.2.1.1 B.1 q0 1 ha rfl hin hdg kk
theorem row_zald (E : Ev p s m args c own nL cc D (TY ct) tN A) (B : Hp D A s.heap ws H locs) (q0 : Nat) {n : Nat} {f : Nat → Int32} (ha : ws[q0]? = some (a, .inl (ct 3, n, .inl f))) {i : Int32} (hin : vp_in i n) (hdg : decode cc pc = .ok (.baload, 1))
    (kk : W p l e R s m args below meth c H locs cells slots Q (F0 m (pc + 1) ls (.int (f i.toNatClampNeg) :: rest))) : W p l e R s m args below meth c H locs cells slots Q (F0 m pc ls (.int i :: .ref a :: rest)) := va_zald E.1.1 E.1.2.1 E.2.1.1 B.1 q0 3 ha rfl hin hdg kk
theorem row_lald (E : Ev p s m args c own nL cc D (TY ct) tN A) (B : Hp D A s.heap ws H locs) (q0 : Nat) {n : Nat} {f : Nat → Int64} (ha : ws[q0]? = some (a, .inl (ct 2, n, .inr (.inl f)))) {i : Int32} (hin : vp_in i n) (hdg : decode cc pc = .ok (.laload, 1))
    (kk : W p l e R s m args below meth c H locs cells slots Q (F0 m (pc + 1) ls (.long (f i.toNatClampNeg) :: rest))) : W p l e R s m args below meth c H locs cells slots Q (F0 m pc ls (.int i :: .ref a :: rest)) := va_lald E.1.1 E.1.2.1 E.2.1.1 B.1 q0 2 ha rfl hin hdg kk
theorem row_iast (E : Ev p s m args c own nL cc D (TY ct) tN A) (B : Hp D A s.heap ws H locs) (q0 : Nat) {n : Nat} {f : Nat → Int32} (ha : ws[q0]? = some (a, .inl (ct 0, n, .inl f))) {i x : Int32} (hin : vp_in i n) (hdg : decode cc pc = .ok (.iastore, 1))
    (kk : ∀ (H1 : Heap) (locs1 : List Loc), Hp D A s.heap (ws.set q0 (a, .inl (ct 0, n, .inl (upd f i.toNatClampNeg x)))) H1 locs1 → W p l e R s m args below meth c H1 locs1 cells slots Q (F0 m (pc + 1) ls rest)) : W p l e R s m args below meth c H locs cells slots Q (F0 m pc ls (.int x :: .int i :: .ref a :: rest)) := va_iast E.1.1 E.1.2.1 E.2.1.1 B.1 B.2.1 B.2.2 q0 0 ha rfl hin hdg (fun H1 locs1 h1 h2 h3 => kk H1 locs1 ⟨h1, h2, h3⟩)
theorem row_bast (E : Ev p s m args c own nL cc D (TY ct) tN A) (B : Hp D A s.heap ws H locs) (q0 : Nat) {n : Nat} {f : Nat → Int32} (ha : ws[q0]? = some (a, .inl (ct 1, n, .inl f))) {i x : Int32} (hin : vp_in i n) (hdg : decode cc pc = .ok (.bastore, 1))
    (kk : ∀ (H1 : Heap) (locs1 : List Loc), Hp D A s.heap (ws.set q0 (a, .inl (ct 1, n, .inl (upd f i.toNatClampNeg (vp_nar .byte x))))) H1 locs1 → W p l e R s m args below meth c H1 locs1 cells slots Q (F0 m (pc + 1) ls rest)) : W p l e R s m args below meth c H locs cells slots Q (F0 m pc ls (.int x :: .int i :: .ref a :: rest)) := va_bast E.1.1 E.1.2.1 E.2.1.1 B.1 B.2.1 B.2.2 q0 1 ha rfl hin hdg (fun H1 locs1 h1 h2 h3 => kk H1 locs1 ⟨h1, h2, h3⟩)
theorem row_zast (E : Ev p s m args c own nL cc D (TY ct) tN A) (B : Hp D A s.heap ws H locs) (q0 : Nat) {n : Nat} {f : Nat → Int32} (ha : ws[q0]? = some (a, .inl (ct 3, n, .inl f))) {i x : Int32} (hin : vp_in i n) (hdg : decode cc pc = .ok (.bastore, 1))
    (kk : ∀ (H1 : Heap) (locs1 : List Loc), Hp D A s.heap (ws.set q0 (a, .inl (ct 3, n, .inl (upd f i.toNatClampNeg (vp_nar .boolean x))))) H1 locs1 → W p l e R s m args below meth c H1 locs1 cells slots Q (F0 m (pc + 1) ls rest)) : W p l e R s m args below meth c H locs cells slots Q (F0 m pc ls (.int x :: .int i :: .ref a :: rest)) := va_zast E.1.1 E.1.2.1 E.2.1.1 B.1 B.2.1 B.2.2 q0 3 ha rfl hin hdg (fun H1 locs1 h1 h2 h3 => kk H1 locs1 ⟨h1, h2, h3⟩)
theorem row_last (E : Ev p s m args c own nL cc D (TY ct) tN A) (B : Hp D A s.heap ws H locs) (q0 : Nat) {n : Nat} {f : Nat → Int64} (ha : ws[q0]? = some (a, .inl (ct 2, n, .inr (.inl f)))) {i : Int32} {x : Int64} (hin : vp_in i n) (hdg : decode cc pc = .ok (.lastore, 1))
    (kk : ∀ (H1 : Heap) (locs1 : List Loc), Hp D A s.heap (ws.set q0 (a, .inl (ct 2, n, .inr (.inl (vp_updL f i.toNatClampNeg x))))) H1 locs1 → W p l e R s m args below meth c H1 locs1 cells slots Q (F0 m (pc + 1) ls rest)) : W p l e R s m args below meth c H locs cells slots Q (F0 m pc ls (.long x :: .int i :: .ref a :: rest)) := va_last E.1.1 E.1.2.1 E.2.1.1 B.1 B.2.1 B.2.2 q0 2 ha rfl hin hdg (fun H1 locs1 h1 h2 h3 => kk H1 locs1 ⟨h1, h2, h3⟩)
theorem row_nothing (E : Ev p s m args c own nL cc D (TY ct) tN A) (B : Hp D A s.heap ws H locs) (hm : (own, idx) ∈ NX) (hdg : decode cc pc = .ok (.getstatic idx, 3))
    (kk : W p l e R s m args below meth c H locs cells slots Q (F0 m (pc + 3) ls (.ref tN :: rest))) : W p l e R s m args below meth c H locs cells slots Q (F0 m pc ls rest) :=
  va_getsN E.1.1 E.1.2.1 E.2.1.2.2.1 B.2.2 E.1.2.2.2.1 (va_Nw.use rfl (E.2.1.2.1.2.1 _ hm)) (fun _ h => h) hdg kk
theorem row_obj (E : Ev p s m args c own nL cc D (TY ct) tN A) (h1 : Cond.methodLink own idx objectInit ∈ BIG) (h2 : Cond.instanceMethod objectInit ∈ BIG) (h3 : Cond.code objectInit ⟨#[0xb1]⟩ 1 none ∈ BIG) {lv : List (Nat × Value)} (hls : lv_has ls nL lv) (hdg : decode cc pc = .ok (.invokespecial idx, 3)) (hf : 1 ≤ R.frames) (hroom : (rest.map fun v => v.category).sum + 12 ≤ R.locals)
    (kk : W p l e R s m args below meth c H locs cells slots Q (F0 m (pc + 3) ls rest)) : W p l e R s m args below meth c H locs cells slots Q (F0 m pc ls (.ref a :: rest)) :=
  W.objInit (g := F0 m pc ls (.ref a :: rest)) E.1.1 E.1.2.1 E.1.2.2.2.1 (E.1.2.2.2.2 _ h1) (E.1.2.2.2.2 _ h2) (E.1.2.2.2.2 _ h3) rfl (by rw [E.1.2.2.1]; exact hls.1) rfl hdg hf (by show 2 * 0 + _ + 12 ≤ _; omega) kk
theorem row_new (E : Ev p s m args c own nL cc D (TY ct) tN A) (B : Hp D A s.heap ws H locs) (hin : ∀ w ∈ u_ws C TT NN, w ∈ BIG) (hc : classes[ci]? = some (C, TT, NN)) (ty0 : Nat → FieldType) (hty : ∀ k, k < NN → parseFieldDescriptor (TT k).2.2.1 = some (ty0 k)) (h1 : Cond.classLink own idx C ∈ BIG) (h2 : Cond.instantiable C NN ∈ BIG) (h3 : Cond.initialized C ∈ BIG) (hfs : ∀ j, j < NN → defaultValue (ty0 j) = vp_V fs j) (hcells : cells + 1 ≤ R.cells) (hslots : slots + NN ≤ R.slots) (hdg : decode cc pc = .ok (.new idx, 3))
    (kk : ∀ (q : Nat) (H1 : Heap), Hp D A s.heap (ws ++ [(q, .inr (ci, fs))]) H1 locs → W p l e R s m args below meth c H1 locs (cells + 1) (slots + NN) Q (F0 m (pc + 3) ls (.ref q :: rest))) : W p l e R s m args below meth c H locs cells slots Q (F0 m pc ls rest) :=
  va_new E.1.1 E.1.2.1 E.1.2.2.2.2 hin ty0 hty E.1.2.2.2.1 (E.1.2.2.2.2 _ h1) (E.1.2.2.2.2 _ h2) (E.1.2.2.2.2 _ h3) E.2.1.1 B.1 B.2.1 B.2.2 E.2.2 hc hfs hcells hslots hdg (fun q H1 g1 g2 g3 => kk q H1 ⟨g1, g2, g3⟩)
theorem row_newa (E : Ev p s m args c own nL cc D (TY ct) tN A) (B : Hp D A s.heap ws H locs) {atype : ArrayType} {ty : FieldType} (harr : Cond.arrayClass (newarray.typeOf atype) ∈ BIG) (hty : newarray.typeOf atype = ty) (j : Nat) (hj : (TY ct)[j]? = some (ct j, ty)) {n : Int32} {N' : Nat} {a0 : vp_A} (ha : ∀ cA : ClassId, vp_cell cA a0 = arrV cA N' (fun _ => defaultValue ty)) (hn : ¬ n < 0) (hN : n.toNatClampNeg = N') (hbytes : N' * componentBytes ty ≤ 536870912) (hcells : cells + 1 ≤ R.cells) (hslots : slots + N' ≤ R.slots) (hdg : decode cc pc = .ok (.newarray atype, 2))
    (kk : ∀ (q : Nat) (H1 : Heap), Hp D A s.heap (ws ++ [(q, .inl (ct j, a0))]) H1 locs → W p l e R s m args below meth c H1 locs (cells + 1) (slots + N') Q (F0 m (pc + 2) ls (.ref q :: rest))) : W p l e R s m args below meth c H locs cells slots Q (F0 m pc ls (.int n :: rest)) := by
  refine va_newa E.1.1 E.1.2.1 (E.1.2.2.2.2 _ harr) hty E.2.1.1 B.1 B.2.1 B.2.2 E.2.2 ha hn hN hbytes hcells hslots hdg (fun q cA H1 g0 g1 g2 g3 => ?_)
  have e1 : cA = ct j := ra_eq ((g0.2 (TY ct).length (cA, ty) (by rw [List.getElem?_append_right (Nat.le_refl _), Nat.sub_self]; rfl)).2) ((E.2.1.1.2 j _ hj).2)
  subst e1
  exact kk q H1 ⟨g1, g2, g3⟩
theorem row_newq (E : Ev p s m args c own nL cc D (TY ct) tN A) (B : Hp D A s.heap ws H locs) (h1 : Cond.classLink own idx RX7 ∈ BIG) {n : Int32} {N' : Nat} (hn : ¬ n < 0) (hN : n.toNatClampNeg = N') (hbytes : N' * 4 ≤ 536870912) (hcells : cells + 1 ≤ R.cells) (hslots : slots + N' ≤ R.slots) (hdg : decode cc pc = .ok (.anewarray idx, 3))
    (kk : ∀ (q : Nat) (H1 : Heap), Hp D A s.heap (ws ++ [(q, .inl (ct 5, N', .inr (.inr (.inr (.inr (fun _ => none))))))]) H1 locs → W p l e R s m args below meth c H1 locs (cells + 1) (slots + N') Q (F0 m (pc + 3) ls (.ref q :: rest))) : W p l e R s m args below meth c H locs cells slots Q (F0 m pc ls (.int n :: rest)) := by
  refine va_newq E.1.1 E.1.2.1 E.1.2.2.2.1 (E.1.2.2.2.2 _ h1) E.2.1.2.1.2.2.1 E.2.1.1 B.1 B.2.1 B.2.2 E.2.2 hn hN hbytes hcells hslots hdg (fun q cA H1 g0 g1 g2 g3 => ?_)
  have e1 : cA = ct 5 := ra_eq ((g0.2 (TY ct).length (cA, .object RX7) (by rw [List.getElem?_append_right (Nat.le_refl _), Nat.sub_self]; rfl)).2) ((E.2.1.1.2 5 _ rfl).2)
  subst e1
  exact kk q H1 ⟨g1, g2, g3⟩
theorem row_newqa (E : Ev p s m args c own nL cc D (TY ct) tN A) (B : Hp D A s.heap ws H locs) (h1 : Cond.classLink own idx "[I" ∈ BIG) {n : Int32} {N' : Nat} (hn : ¬ n < 0) (hN : n.toNatClampNeg = N') (hbytes : N' * 4 ≤ 536870912) (hcells : cells + 1 ≤ R.cells) (hslots : slots + N' ≤ R.slots) (hdg : decode cc pc = .ok (.anewarray idx, 3))
    (kk : ∀ (q : Nat) (H1 : Heap), Hp D A s.heap (ws ++ [(q, .inl (ct 4, N', .inr (.inr (.inr (.inr (fun _ => none))))))]) H1 locs → W p l e R s m args below meth c H1 locs (cells + 1) (slots + N') Q (F0 m (pc + 3) ls (.ref q :: rest))) : W p l e R s m args below meth c H locs cells slots Q (F0 m pc ls (.int n :: rest)) := by
  subst hN
  refine W.anewA (t := .int) (g := F0 m pc ls (.int n :: rest)) E.1.1 E.1.2.1 E.1.2.2.2.1 (E.1.2.2.2.2 _ h1) (show (Cond.arrayOver (.array .int)).before args s = true from E.2.1.2.1.2.2.2) rfl hdg rfl hn hbytes hcells hslots (fun cA kA comp f1 f2 f3 f4 => ?_)
  have e1 : cA = ct 4 := Option.some.inj (f1.symm.trans (E.2.1.1.2 4 _ rfl).2)
  subst e1
  generalize hH1 : H.push ({ cls := ct 4, slots := Array.replicate n.toNatClampNeg .null, vm := .none } : Cell) = H1
  have z1 : H1.size = H.size + 1 := by rw [← hH1, Array.size_push]
  have e1 : H1[H.size]? = some (arrV (ct 4) n.toNatClampNeg (fun _ => .null)) := by rw [← hH1, Array.getElem?_push_size, ← arrV_new]
  have o1 : ∀ q : Nat, q < H.size → H1[q]? = H[q]? := fun q hq => by rw [← hH1, Array.getElem?_push, if_neg (Nat.ne_of_lt hq)]
  have hk : ∀ (k : Nat) (x : Nat × va_E), ws[k]? = some x → H1[x.1]? = H[x.1]? := fun k x hx => o1 x.1 ((B.1 k x hx).lt)
  have hS := B.2.2
  refine kk H.size H1 ⟨(B.1.kept hk).app (fun k x hx => ?_), B.2.1.push B.1 rfl (E.2.2 _ hS.1), Nat.le_trans hS.1 (by omega), fun x h1 h2 => (o1 x (Nat.lt_of_lt_of_le h1 hS.1)).trans (hS.2.1 x h1 h2), hS.2.2⟩
  have hz : k < 1 := (List.getElem?_eq_some_iff.mp hx).1
  rw [show k = 0 by omega] at hx
  cases hx
  show H1[H.size]? = some (vp_cell _ _)
  rw [vp_cell_q]
  exact e1
/-! branches and sums in whole numbers -/
theorem b_eq (E : Ev p s m args c own nL cc D (TY ct) tN A) {x : Int32} {i : Int} (hx : x.toInt = i) {off : Int} {tgt : Nat} (hdg : decode cc pc = .ok (.ifCond .eq off, 3)) (ht : (pc : Int) + off = (tgt : Int)) (kt : i = 0 → W p l e R s m args below meth c H locs cells slots Q (F0 m tgt ls rest)) (kf : ¬ i = 0 → W p l e R s m args below meth c H locs cells slots Q (F0 m (pc + 3) ls rest)) : W p l e R s m args below meth c H locs cells slots Q (F0 m pc ls (.int x :: rest)) :=
  lv_if_eq E.1.1 E.1.2.1 hdg ht (fun q => kt (by rw [← hx, q]; rfl)) (fun q => kf (fun h => q (eq_of_toInt (by rw [hx, h]; rfl))))
theorem b_ne (E : Ev p s m args c own nL cc D (TY ct) tN A) {x : Int32} {i : Int} (hx : x.toInt = i) {off : Int} {tgt : Nat} (hdg : decode cc pc = .ok (.ifCond .ne off, 3)) (ht : (pc : Int) + off = (tgt : Int)) (kt : ¬ i = 0 → W p l e R s m args below meth c H locs cells slots Q (F0 m tgt ls rest)) (kf : i = 0 → W p l e R s m args below meth c H locs cells slots Q (F0 m (pc + 3) ls rest)) : W p l e R s m args below meth c H locs cells slots Q (F0 m pc ls (.int x :: rest)) :=
  lv_if_ne E.1.1 E.1.2.1 hdg ht (fun q => kt (fun h => q (eq_of_toInt (by rw [hx, h]; rfl)))) (fun q => kf (by rw [← hx, q]; rfl))
theorem b_lt (E : Ev p s m args c own nL cc D (TY ct) tN A) {x : Int32} {i : Int} (hx : x.toInt = i) {off : Int} {tgt : Nat} (hdg : decode cc pc = .ok (.ifCond .lt off, 3)) (ht : (pc : Int) + off = (tgt : Int)) (kt : i < 0 → W p l e R s m args below meth c H locs cells slots Q (F0 m tgt ls rest)) (kf : 0 ≤ i → W p l e R s m args below meth c H locs cells slots Q (F0 m (pc + 3) ls rest)) : W p l e R s m args below meth c H locs cells slots Q (F0 m pc ls (.int x :: rest)) :=
  lv_if_lt E.1.1 E.1.2.1 hdg ht (fun q => kt (by rw [← hx]; exact Int32.lt_iff_toInt_lt.mp q)) (fun q => kf (by rw [← hx]; exact Int.not_lt.mp (fun h => q (Int32.lt_iff_toInt_lt.mpr h))))
theorem b_ge (E : Ev p s m args c own nL cc D (TY ct) tN A) {x : Int32} {i : Int} (hx : x.toInt = i) {off : Int} {tgt : Nat} (hdg : decode cc pc = .ok (.ifCond .ge off, 3)) (ht : (pc : Int) + off = (tgt : Int)) (kt : 0 ≤ i → W p l e R s m args below meth c H locs cells slots Q (F0 m tgt ls rest)) (kf : i < 0 → W p l e R s m args below meth c H locs cells slots Q (F0 m (pc + 3) ls rest)) : W p l e R s m args below meth c H locs cells slots Q (F0 m pc ls (.int x :: rest)) :=
  lv_if_ge E.1.1 E.1.2.1 hdg ht (fun q => kt (by rw [← hx]; exact Int32.le_iff_toInt_le.mp q)) (fun q => kf (by rw [← hx]; exact Int.not_le.mp (fun h => q (Int32.le_iff_toInt_le.mpr h))))
theorem b_gt (E : Ev p s m args c own nL cc D (TY ct) tN A) {x : Int32} {i : Int} (hx : x.toInt = i) {off : Int} {tgt : Nat} (hdg : decode cc pc = .ok (.ifCond .gt off, 3)) (ht : (pc : Int) + off = (tgt : Int)) (kt : 0 < i → W p l e R s m args below meth c H locs cells slots Q (F0 m tgt ls rest)) (kf : i ≤ 0 → W p l e R s m args below meth c H locs cells slots Q (F0 m (pc + 3) ls rest)) : W p l e R s m args below meth c H locs cells slots Q (F0 m pc ls (.int x :: rest)) :=
  lv_if_gt E.1.1 E.1.2.1 hdg ht (fun q => kt (by rw [← hx]; exact Int32.lt_iff_toInt_lt.mp q)) (fun q => kf (by rw [← hx]; exact Int.not_lt.mp (fun h => q (Int32.lt_iff_toInt_lt.mpr h))))
theorem b_le (E : Ev p s m args c own nL cc D (TY ct) tN A) {x : Int32} {i : Int} (hx : x.toInt = i) {off : Int} {tgt : Nat} (hdg : decode cc pc = .ok (.ifCond .le off, 3)) (ht : (pc : Int) + off = (tgt : Int)) (kt : i ≤ 0 → W p l e R s m args below meth c H locs cells slots Q (F0 m tgt ls rest)) (kf : 0 < i → W p l e R s m args below meth c H locs cells slots Q (F0 m (pc + 3) ls rest)) : W p l e R s m args below meth c H locs cells slots Q (F0 m pc ls (.int x :: rest)) :=
  lv_if_le E.1.1 E.1.2.1 hdg ht (fun q => kt (by rw [← hx]; exact Int32.le_iff_toInt_le.mp q)) (fun q => kf (by rw [← hx]; exact Int.not_le.mp (fun h => q (Int32.le_iff_toInt_le.mpr h))))
theorem c_eq (E : Ev p s m args c own nL cc D (TY ct) tN A) {x y : Int32} {i j : Int} (hx : x.toInt = i) (hy : y.toInt = j) {off : Int} {tgt : Nat} (hdg : decode cc pc = .ok (.if_icmp .eq off, 3)) (ht : (pc : Int) + off = (tgt : Int)) (kt : i = j → W p l e R s m args below meth c H locs cells slots Q (F0 m tgt ls rest)) (kf : ¬ i = j → W p l e R s m args below meth c H locs cells slots Q (F0 m (pc + 3) ls rest)) : W p l e R s m args below meth c H locs cells slots Q (F0 m pc ls (.int y :: .int x :: rest)) :=
  lv_icmp_eq E.1.1 E.1.2.1 hdg ht (fun q => kt (by rw [← hx, ← hy, q])) (fun q => kf (fun h => q (eq_of_toInt (by rw [hx, hy, h]))))
theorem c_ne (E : Ev p s m args c own nL cc D (TY ct) tN A) {x y : Int32} {i j : Int} (hx : x.toInt = i) (hy : y.toInt = j) {off : Int} {tgt : Nat} (hdg : decode cc pc = .ok (.if_icmp .ne off, 3)) (ht : (pc : Int) + off = (tgt : Int)) (kt : ¬ i = j → W p l e R s m args below meth c H locs cells slots Q (F0 m tgt ls rest)) (kf : i = j → W p l e R s m args below meth c H locs cells slots Q (F0 m (pc + 3) ls rest)) : W p l e R s m args below meth c H locs cells slots Q (F0 m pc ls (.int y :: .int x :: rest)) :=
  lv_icmp_ne E.1.1 E.1.2.1 hdg ht (fun q => kt (fun h => q (eq_of_toInt (by rw [hx, hy, h])))) (fun q => kf (by rw [← hx, ← hy, q]))
theorem c_lt (E : Ev p s m args c own nL cc D (TY ct) tN A) {x y : Int32} {i j : Int} (hx : x.toInt = i) (hy : y.toInt = j) {off : Int} {tgt : Nat} (hdg : decode cc pc = .ok (.if_icmp .lt off, 3)) (ht : (pc : Int) + off = (tgt : Int)) (kt : i < j → W p l e R s m args below meth c H locs cells slots Q (F0 m tgt ls rest)) (kf : j ≤ i → W p l e R s m args below meth c H locs cells slots Q (F0 m (pc + 3) ls rest)) : W p l e R s m args below meth c H locs cells slots Q (F0 m pc ls (.int y :: .int x :: rest)) :=
  lv_icmp_lt E.1.1 E.1.2.1 hdg ht (fun q => kt (by rw [← hx, ← hy]; exact Int32.lt_iff_toInt_lt.mp q)) (fun q => kf (by rw [← hx, ← hy]; exact Int.not_lt.mp (fun h => q (Int32.lt_iff_toInt_lt.mpr h))))
theorem c_ge (E : Ev p s m args c own nL cc D (TY ct) tN A) {x y : Int32} {i j : Int} (hx : x.toInt = i) (hy : y.toInt = j) {off : Int} {tgt : Nat} (hdg : decode cc pc = .ok (.if_icmp .ge off, 3)) (ht : (pc : Int) + off = (tgt : Int)) (kt : j ≤ i → W p l e R s m args below meth c H locs cells slots Q (F0 m tgt ls rest)) (kf : i < j → W p l e R s m args below meth c H locs cells slots Q (F0 m (pc + 3) ls rest)) : W p l e R s m args below meth c H locs cells slots Q (F0 m pc ls (.int y :: .int x :: rest)) :=
  lv_icmp_ge E.1.1 E.1.2.1 hdg ht (fun q => kt (by rw [← hx, ← hy]; exact Int32.le_iff_toInt_le.mp q)) (fun q => kf (by rw [← hx, ← hy]; exact Int.not_le.mp (fun h => q (Int32.le_iff_toInt_le.mpr h))))
theorem c_gt (E : Ev p s m args c own nL cc D (TY ct) tN A) {x y : Int32} {i j : Int} (hx : x.toInt = i) (hy : y.toInt = j) {off : Int} {tgt : Nat} (hdg : decode cc pc = .ok (.if_icmp .gt off, 3)) (ht : (pc : Int) + off = (tgt : Int)) (kt : j < i → W p l e R s m args below meth c H locs cells slots Q (F0 m tgt ls rest)) (kf : i ≤ j → W p l e R s m args below meth c H locs cells slots Q (F0 m (pc + 3) ls rest)) : W p l e R s m args below meth c H locs cells slots Q (F0 m pc ls (.int y :: .int x :: rest)) :=
  lv_icmp_gt E.1.1 E.1.2.1 hdg ht (fun q => kt (by rw [← hx, ← hy]; exact Int32.lt_iff_toInt_lt.mp q)) (fun q => kf (by rw [← hx, ← hy]; exact Int.not_lt.mp (fun h => q (Int32.lt_iff_toInt_lt.mpr h))))
theorem c_le (E : Ev p s m args c own nL cc D (TY ct) tN A) {x y : Int32} {i j : Int} (hx : x.toInt = i) (hy : y.toInt = j) {off : Int} {tgt : Nat} (hdg : decode cc pc = .ok (.if_icmp .le off, 3)) (ht : (pc : Int) + off = (tgt : Int)) (kt : i ≤ j → W p l e R s m args below meth c H locs cells slots Q (F0 m tgt ls rest)) (kf : j < i → W p l e R s m args below meth c H locs cells slots Q (F0 m (pc + 3) ls rest)) : W p l e R s m args below meth c H locs cells slots Q (F0 m pc ls (.int y :: .int x :: rest)) :=
  lv_icmp_le E.1.1 E.1.2.1 hdg ht (fun q => kt (by rw [← hx, ← hy]; exact Int32.le_iff_toInt_le.mp q)) (fun q => kf (by rw [← hx, ← hy]; exact Int.not_le.mp (fun h => q (Int32.le_iff_toInt_le.mpr h))))
theorem i_add (E : Ev p s m args c own nL cc D (TY ct) tN A) {x y : Int32} {i j : Int} (hx : x.toInt = i) (hy : y.toInt = j) (h1 : -2147483648 ≤ i + j) (h2 : i + j ≤ 2147483647) (hdg : decode cc pc = .ok (.iadd, 1)) (kk : ∀ z : Int32, z.toInt = i + j → W p l e R s m args below meth c H locs cells slots Q (F0 m (pc + 1) ls (.int z :: rest))) : W p l e R s m args below meth c H locs cells slots Q (F0 m pc ls (.int y :: .int x :: rest)) :=
  lv_iadd E.1.1 E.1.2.1 hdg (kk _ (toInt_add hx hy h1 h2))
theorem i_sub (E : Ev p s m args c own nL cc D (TY ct) tN A) {x y : Int32} {i j : Int} (hx : x.toInt = i) (hy : y.toInt = j) (h1 : -2147483648 ≤ i - j) (h2 : i - j ≤ 2147483647) (hdg : decode cc pc = .ok (.isub, 1)) (kk : ∀ z : Int32, z.toInt = i - j → W p l e R s m args below meth c H locs cells slots Q (F0 m (pc + 1) ls (.int z :: rest))) : W p l e R s m args below meth c H locs cells slots Q (F0 m pc ls (.int y :: .int x :: rest)) :=
  lv_isub E.1.1 E.1.2.1 hdg (kk _ (toInt_sub hx hy h1 h2))
theorem i_mul (E : Ev p s m args c own nL cc D (TY ct) tN A) {x y : Int32} {i j z0 : Int} (hx : x.toInt = i) (hy : y.toInt = j) (hz : i * j = z0) (h1 : -2147483648 ≤ z0) (h2 : z0 ≤ 2147483647) (hdg : decode cc pc = .ok (.imul, 1)) (kk : ∀ z : Int32, z.toInt = z0 → W p l e R s m args below meth c H locs cells slots Q (F0 m (pc + 1) ls (.int z :: rest))) : W p l e R s m args below meth c H locs cells slots Q (F0 m pc ls (.int y :: .int x :: rest)) :=
  lv_imul E.1.1 E.1.2.1 hdg (kk _ (toInt_mul hx hy hz h1 h2))
theorem i_inc (E : Ev p s m args c own nL cc D (TY ct) tN A) {i k : Nat} {n : Int} {x : Int32} {j : Int} {lv : List (Nat × Value)} (hx : x.toInt = j) (hn0 : (Int32.ofInt n).toInt = n) (h1 : -2147483648 ≤ j + n) (h2 : j + n ≤ 2147483647) (hdg : decode cc pc = .ok (.iinc i n, 3)) (h : lv_has ls nL lv) (hk : lv[k]? = some (i, .int x)) (hn : i < nL)
    (kk : ∀ (z : Int32) (ls' : Array Slot), z.toInt = j + n → lv_has ls' nL ((i, Value.int z) :: lv.filter (fun q => !(q.1 == i) && !(q.1 + 1 == i && q.2.category == 2))) → W p l e R s m args below meth c H locs cells slots Q (F0 m (pc + 3) ls' rest)) : W p l e R s m args below meth c H locs cells slots Q (F0 m pc ls rest) :=
  lv_iinc E.1.1 E.1.2.1 hdg h hk rfl hn rfl (fun ls' hl => kk _ ls' (toInt_add hx hn0 h1 h2) hl)
theorem i_shl (E : Ev p s m args c own nL cc D (TY ct) tN A) {x y r : Int32} {i j : Int} (hx : x.toInt = i) (hy : y.toInt = j) (hr : (Int32.ofInt i <<< (Int32.ofInt j &&& 31)) = r) (hdg : decode cc pc = .ok (.ishl, 1)) (kk : W p l e R s m args below meth c H locs cells slots Q (F0 m (pc + 1) ls (.int r :: rest))) : W p l e R s m args below meth c H locs cells slots Q (F0 m pc ls (.int y :: .int x :: rest)) := by
  have e1 : x = Int32.ofInt i := by rw [← hx, Int32.ofInt_toInt]
  have e2 : y = Int32.ofInt j := by rw [← hy, Int32.ofInt_toInt]
  refine lv_ishl E.1.1 E.1.2.1 hdg ?_
  rw [e1, e2, hr]
  exact kk
theorem l_and0 (E : Ev p s m args c own nL cc D (TY ct) tN A) {x y : Int64} (hx : x = 0) (hdg : decode cc pc = .ok (.land, 1)) (kk : W p l e R s m args below meth c H locs cells slots Q (F0 m (pc + 1) ls (.long 0 :: rest))) : W p l e R s m args below meth c H locs cells slots Q (F0 m pc ls (.long y :: .long x :: rest)) := by
  refine lv_land E.1.1 E.1.2.1 hdg ?_
  rw [hx, Int64.zero_and]
  exact kk
theorem l_cmp0 (E : Ev p s m args c own nL cc D (TY ct) tN A) (hdg : decode cc pc = .ok (.lcmp, 1)) (kk : W p l e R s m args below meth c H locs cells slots Q (F0 m (pc + 1) ls (.int 0 :: rest))) : W p l e R s m args below meth c H locs cells slots Q (F0 m pc ls (.long 0 :: .long 0 :: rest)) := by
  refine W.lcmp E.1.1 E.1.2.1 hdg ?_
  rw [show lg_cmp 0 0 = 0 from rfl]
  exact kk
theorem any_l {x : Int64} (kk : ∀ z : Int64, W p l e R s m args below meth c H locs cells slots Q (F0 m pc ls (.long z :: rest))) : W p l e R s m args below meth c H locs cells slots Q (F0 m pc ls (.long x :: rest)) := kk x
theorem at_pc {n : Nat} (h : pc = n) (kk : W p l e R s m args below meth c H locs cells slots Q (F0 m n ls rest)) : W p l e R s m args below meth c H locs cells slots Q (F0 m pc ls rest) := by
  subst h
  exact kk
theorem at_n {n k1 k2 : Nat} (h : pc = n) (h1 : cells = k1) (h2 : slots = k2) (kk : W p l e R s m args below meth c H locs k1 k2 Q (F0 m n ls rest)) : W p l e R s m args below meth c H locs cells slots Q (F0 m pc ls rest) := by
  subst h; subst h1; subst h2
  exact kk
/-- a number of which nothing is asked -/
theorem any_i {x : Int32} (kk : ∀ z : Int32, W p l e R s m args below meth c H locs cells slots Q (F0 m pc ls (.int z :: rest))) : W p l e R s m args below meth c H locs cells slots Q (F0 m pc ls (.int x :: rest)) := kk x
end ROWS
end
section
/-! words of the tables by their places, classes, worlds, numbers -/
theorem ms_0 : (Jvm.Cond.selects "VerseCommittee" ({ cls := "VerseCommittee", name := "putFour", desc := "(I)V" } : Jvm.MethodName) ({ cls := "VerseCommittee", name := "putFour", desc := "(I)V" } : Jvm.MethodName)) ∈ BIG := big_mem 0 (by decide +kernel) rfl
theorem ms_1 : (Jvm.Cond.selects "VerseCommittee" ({ cls := "VerseCommittee", name := "tapeHas", desc := "(II)Z" } : Jvm.MethodName) ({ cls := "VerseCommittee", name := "tapeHas", desc := "(II)Z" } : Jvm.MethodName)) ∈ BIG := big_mem 1 (by decide +kernel) rfl
theorem ms_42 : (Jvm.Cond.selects "VerseCommittee" ({ cls := "VerseCommittee", name := "isPastDay", desc := "(I)Z" } : Jvm.MethodName) ({ cls := "VerseCommittee", name := "isPastDay", desc := "(I)Z" } : Jvm.MethodName)) ∈ BIG := big_mem 42 (by decide +kernel) rfl
theorem ms_53 : (Jvm.Cond.selects "VerseCommittee$Choices" ({ cls := "VerseCommittee$Choices", name := "arePart", desc := "(II)Z" } : Jvm.MethodName) ({ cls := "VerseCommittee$Choices", name := "arePart", desc := "(II)Z" } : Jvm.MethodName)) ∈ BIG := big_mem 53 (by decide +kernel) rfl
theorem ms_59 : (Jvm.Cond.selects "VerseCommittee$Choices" ({ cls := "VerseCommittee$Choices", name := "choose", desc := "(II)V" } : Jvm.MethodName) ({ cls := "VerseCommittee$Choices", name := "choose", desc := "(II)V" } : Jvm.MethodName)) ∈ BIG := big_mem 59 (by decide +kernel) rfl
theorem ms_60 : (Jvm.Cond.selects "VerseCommittee$Choices" ({ cls := "VerseCommittee$Choices", name := "choiceOfRow", desc := "()I" } : Jvm.MethodName) ({ cls := "VerseCommittee$Choices", name := "choiceOfRow", desc := "()I" } : Jvm.MethodName)) ∈ BIG := big_mem 60 (by decide +kernel) rfl
theorem ms_66 : (Jvm.Cond.selects "VerseCommittee$Planner" ({ cls := "VerseCommittee$Planner", name := "gatherBooks", desc := "()V" } : Jvm.MethodName) ({ cls := "VerseCommittee$Planner", name := "gatherBooks", desc := "()V" } : Jvm.MethodName)) ∈ BIG := big_mem 66 (by decide +kernel) rfl
theorem ms_67 : (Jvm.Cond.selects "VerseCommittee$Planner" ({ cls := "VerseCommittee$Planner", name := "daysOfCentre", desc := "()I" } : Jvm.MethodName) ({ cls := "VerseCommittee$Planner", name := "daysOfCentre", desc := "()I" } : Jvm.MethodName)) ∈ BIG := big_mem 67 (by decide +kernel) rfl
theorem ms_68 : (Jvm.Cond.selects "VerseCommittee$Planner" ({ cls := "VerseCommittee$Planner", name := "give", desc := "(II)V" } : Jvm.MethodName) ({ cls := "VerseCommittee$Planner", name := "give", desc := "(II)V" } : Jvm.MethodName)) ∈ BIG := big_mem 68 (by decide +kernel) rfl
theorem ms_71 : (Jvm.Cond.selects "VerseCommittee" ({ cls := "VerseCommittee", name := "firstWrongByte", desc := "(I)I" } : Jvm.MethodName) ({ cls := "VerseCommittee", name := "firstWrongByte", desc := "(I)I" } : Jvm.MethodName)) ∈ BIG := big_mem 71 (by decide +kernel) rfl
theorem mw_1 : (Jvm.Cond.initialized "VerseCommittee") ∈ BIG := big_mem 149 (by decide +kernel) rfl
theorem mw_2 : (Jvm.Cond.initialized "VerseCommittee$Words") ∈ BIG := big_mem 150 (by decide +kernel) rfl
theorem mw_3 : (Jvm.Cond.initialized "VerseCommittee$Verses") ∈ BIG := big_mem 151 (by decide +kernel) rfl
theorem mw_4 : (Jvm.Cond.initialized "VerseCommittee$People") ∈ BIG := big_mem 152 (by decide +kernel) rfl
theorem mw_5 : (Jvm.Cond.initialized "VerseCommittee$Laws") ∈ BIG := big_mem 153 (by decide +kernel) rfl
theorem mw_6 : (Jvm.Cond.initialized "VerseCommittee$Shelf") ∈ BIG := big_mem 154 (by decide +kernel) rfl
theorem mw_9 : (Jvm.Cond.initialized "VerseCommittee$Findings") ∈ BIG := big_mem 157 (by decide +kernel) rfl
theorem mw_10 : (Jvm.Cond.initialized "VerseCommittee$Choices") ∈ BIG := big_mem 158 (by decide +kernel) rfl
theorem mw_11 : (Jvm.Cond.initialized "VerseCommittee$Planner") ∈ BIG := big_mem 159 (by decide +kernel) rfl
theorem mw_32 : (Jvm.Cond.fieldLink "VerseCommittee$Words" (18 : Nat) "VerseCommittee$Words" "size" "I") ∈ BIG := big_mem 180 (by decide +kernel) rfl
theorem mw_50 : (Jvm.Cond.fieldLink "VerseCommittee$Verses" (9 : Nat) "VerseCommittee$Verses" "books" "[I") ∈ BIG := big_mem 198 (by decide +kernel) rfl
theorem mw_51 : (Jvm.Cond.fieldLink "VerseCommittee$Verses" (15 : Nat) "VerseCommittee$Verses" "measures" "[I") ∈ BIG := big_mem 199 (by decide +kernel) rfl
theorem mw_55 : (Jvm.Cond.fieldLink "VerseCommittee$Verses" (29 : Nat) "VerseCommittee$Verses" "size" "I") ∈ BIG := big_mem 203 (by decide +kernel) rfl
theorem mw_75 : (Jvm.Cond.fieldLink "VerseCommittee$People" (11 : Nat) "VerseCommittee$People" "books" "[I") ∈ BIG := big_mem 223 (by decide +kernel) rfl
theorem mw_76 : (Jvm.Cond.fieldLink "VerseCommittee$People" (15 : Nat) "VerseCommittee$People" "rates" "[I") ∈ BIG := big_mem 224 (by decide +kernel) rfl
theorem mw_79 : (Jvm.Cond.fieldLink "VerseCommittee$People" (35 : Nat) "VerseCommittee$People" "centreRate" "I") ∈ BIG := big_mem 227 (by decide +kernel) rfl
theorem mw_80 : (Jvm.Cond.fieldLink "VerseCommittee$People" (21 : Nat) "VerseCommittee$People" "companies" "I") ∈ BIG := big_mem 228 (by decide +kernel) rfl
theorem mw_81 : (Jvm.Cond.fieldLink "VerseCommittee$People" (25 : Nat) "VerseCommittee$People" "scholars" "I") ∈ BIG := big_mem 229 (by decide +kernel) rfl
theorem mw_117 : (Jvm.Cond.fieldLink "VerseCommittee$Laws" (44 : Nat) "VerseCommittee$Laws" "size" "I") ∈ BIG := big_mem 265 (by decide +kernel) rfl
theorem mw_150 : (Jvm.Cond.fieldLink "VerseCommittee$Shelf" (17 : Nat) "VerseCommittee$Shelf" "fixedOf" "[I") ∈ BIG := big_mem 298 (by decide +kernel) rfl
theorem mw_154 : (Jvm.Cond.fieldLink "VerseCommittee$Shelf" (30 : Nat) "VerseCommittee$Shelf" "size" "I") ∈ BIG := big_mem 302 (by decide +kernel) rfl
theorem mw_155 : (Jvm.Cond.fieldLink "VerseCommittee$Shelf" (46 : Nat) "VerseCommittee$Shelf" "turns" "I") ∈ BIG := big_mem 303 (by decide +kernel) rfl
theorem mw_258 : (Jvm.Cond.fieldLink "VerseCommittee$Findings" (37 : Nat) "VerseCommittee$Findings" "verses" "LVerseCommittee$Verses;") ∈ BIG := big_mem 406 (by decide +kernel) rfl
theorem mw_268 : (Jvm.Cond.fieldLink "VerseCommittee$Findings" (133 : Nat) "VerseCommittee$Findings" "places" "I") ∈ BIG := big_mem 416 (by decide +kernel) rfl
theorem mw_269 : (Jvm.Cond.fieldLink "VerseCommittee$Findings" (49 : Nat) "VerseCommittee$Findings" "seen" "I") ∈ BIG := big_mem 417 (by decide +kernel) rfl
theorem mw_311 : (Jvm.Cond.fieldLink "VerseCommittee$Choices" (21 : Nat) "VerseCommittee$Choices" "parted" "[J") ∈ BIG := big_mem 459 (by decide +kernel) rfl
theorem mw_312 : (Jvm.Cond.fieldLink "VerseCommittee$Choices" (25 : Nat) "VerseCommittee$Choices" "prices" "[I") ∈ BIG := big_mem 460 (by decide +kernel) rfl
theorem mw_313 : (Jvm.Cond.fieldLink "VerseCommittee$Choices" (28 : Nat) "VerseCommittee$Choices" "barred" "[Z") ∈ BIG := big_mem 461 (by decide +kernel) rfl
theorem mw_315 : (Jvm.Cond.fieldLink "VerseCommittee$Choices" (51 : Nat) "VerseCommittee$Choices" "size" "I") ∈ BIG := big_mem 463 (by decide +kernel) rfl
theorem mw_316 : (Jvm.Cond.fieldLink "VerseCommittee$Choices" (71 : Nat) "VerseCommittee$Choices" "bestPrice" "I") ∈ BIG := big_mem 464 (by decide +kernel) rfl
theorem mw_317 : (Jvm.Cond.fieldLink "VerseCommittee$Choices" (74 : Nat) "VerseCommittee$Choices" "bestChoice" "I") ∈ BIG := big_mem 465 (by decide +kernel) rfl
theorem mw_354 : (Jvm.Cond.fieldLink "VerseCommittee$Planner" (29 : Nat) "VerseCommittee$Planner" "verses" "LVerseCommittee$Verses;") ∈ BIG := big_mem 502 (by decide +kernel) rfl
theorem mw_357 : (Jvm.Cond.fieldLink "VerseCommittee$Planner" (11 : Nat) "VerseCommittee$Planner" "open" "[I") ∈ BIG := big_mem 505 (by decide +kernel) rfl
theorem mw_359 : (Jvm.Cond.fieldLink "VerseCommittee$Planner" (20 : Nat) "VerseCommittee$Planner" "loads" "[I") ∈ BIG := big_mem 507 (by decide +kernel) rfl
theorem mw_362 : (Jvm.Cond.fieldLink "VerseCommittee$Planner" (57 : Nat) "VerseCommittee$Planner" "size" "I") ∈ BIG := big_mem 510 (by decide +kernel) rfl
theorem mw_363 : (Jvm.Cond.fieldLink "VerseCommittee$Planner" (45 : Nat) "VerseCommittee$Planner" "bestDays" "I") ∈ BIG := big_mem 511 (by decide +kernel) rfl
theorem mw_385 : (Jvm.Cond.fieldLink "VerseCommittee" (9 : Nat) "VerseCommittee" "tape" "[I") ∈ BIG := big_mem 533 (by decide +kernel) rfl
theorem mw_387 : (Jvm.Cond.fieldLink "VerseCommittee" (19 : Nat) "VerseCommittee" "words" "LVerseCommittee$Words;") ∈ BIG := big_mem 535 (by decide +kernel) rfl
theorem mw_388 : (Jvm.Cond.fieldLink "VerseCommittee" (26 : Nat) "VerseCommittee" "verses" "LVerseCommittee$Verses;") ∈ BIG := big_mem 536 (by decide +kernel) rfl
theorem mw_389 : (Jvm.Cond.fieldLink "VerseCommittee" (33 : Nat) "VerseCommittee" "people" "LVerseCommittee$People;") ∈ BIG := big_mem 537 (by decide +kernel) rfl
theorem mw_390 : (Jvm.Cond.fieldLink "VerseCommittee" (40 : Nat) "VerseCommittee" "laws" "LVerseCommittee$Laws;") ∈ BIG := big_mem 538 (by decide +kernel) rfl
theorem mw_391 : (Jvm.Cond.fieldLink "VerseCommittee" (47 : Nat) "VerseCommittee" "shelf" "LVerseCommittee$Shelf;") ∈ BIG := big_mem 539 (by decide +kernel) rfl
theorem mw_394 : (Jvm.Cond.fieldLink "VerseCommittee" (74 : Nat) "VerseCommittee" "findings" "LVerseCommittee$Findings;") ∈ BIG := big_mem 542 (by decide +kernel) rfl
theorem mw_395 : (Jvm.Cond.fieldLink "VerseCommittee" (81 : Nat) "VerseCommittee" "choices" "LVerseCommittee$Choices;") ∈ BIG := big_mem 543 (by decide +kernel) rfl
theorem mw_396 : (Jvm.Cond.fieldLink "VerseCommittee" (90 : Nat) "VerseCommittee" "planner" "LVerseCommittee$Planner;") ∈ BIG := big_mem 544 (by decide +kernel) rfl
theorem mw_397 : (Jvm.Cond.fieldLink "VerseCommittee" (102 : Nat) "VerseCommittee" "taped" "I") ∈ BIG := big_mem 545 (by decide +kernel) rfl
theorem mw_398 : (Jvm.Cond.fieldLink "VerseCommittee" (98 : Nat) "VerseCommittee" "today" "I") ∈ BIG := big_mem 546 (by decide +kernel) rfl
theorem mw_432 : (Jvm.Cond.methodLink "VerseCommittee" (94 : Nat) ({ cls := "VerseCommittee", name := "isDay", desc := "(I)Z" } : Jvm.MethodName)) ∈ BIG := big_mem 580 (by decide +kernel) rfl
theorem mw_433 : (Jvm.Cond.static ({ cls := "VerseCommittee", name := "isDay", desc := "(I)Z" } : Jvm.MethodName)) ∈ BIG := big_mem 581 (by decide +kernel) rfl
theorem mw_434 : (Jvm.Cond.code ({ cls := "VerseCommittee", name := "isDay", desc := "(I)Z" } : Jvm.MethodName) prog_1_method_42_code (1 : Nat) (Option.some Jvm.ClassFile.FieldType.boolean)) ∈ BIG := big_mem 582 (by decide +kernel) rfl
theorem mw_439 : (Jvm.Cond.methodLink "VerseCommittee" (105 : Nat) ({ cls := "VerseCommittee", name := "putFour", desc := "(I)V" } : Jvm.MethodName)) ∈ BIG := big_mem 587 (by decide +kernel) rfl
theorem mw_441 : (Jvm.Cond.instanceMethod ({ cls := "VerseCommittee", name := "putFour", desc := "(I)V" } : Jvm.MethodName)) ∈ BIG := big_mem 589 (by decide +kernel) rfl
theorem mw_442 : (Jvm.Cond.code ({ cls := "VerseCommittee", name := "putFour", desc := "(I)V" } : Jvm.MethodName) prog_1_method_41_code (3 : Nat) (Option.none : Option Jvm.ClassFile.FieldType)) ∈ BIG := big_mem 590 (by decide +kernel) rfl
theorem mw_447 : (Jvm.Cond.methodLink "VerseCommittee" (109 : Nat) ({ cls := "VerseCommittee$Verses", name := "enter", desc := "(II)I" } : Jvm.MethodName)) ∈ BIG := big_mem 595 (by decide +kernel) rfl
theorem mw_448 : (Jvm.Cond.instanceMethod ({ cls := "VerseCommittee$Verses", name := "enter", desc := "(II)I" } : Jvm.MethodName)) ∈ BIG := big_mem 596 (by decide +kernel) rfl
theorem mw_449 : (Jvm.Cond.selects "VerseCommittee$Verses" ({ cls := "VerseCommittee$Verses", name := "enter", desc := "(II)I" } : Jvm.MethodName) ({ cls := "VerseCommittee$Verses", name := "enter", desc := "(II)I" } : Jvm.MethodName)) ∈ BIG := big_mem 597 (by decide +kernel) rfl
theorem mw_450 : (Jvm.Cond.code ({ cls := "VerseCommittee$Verses", name := "enter", desc := "(II)I" } : Jvm.MethodName) prog_11_method_4_code (3 : Nat) (Option.some Jvm.ClassFile.FieldType.int)) ∈ BIG := big_mem 598 (by decide +kernel) rfl
theorem mw_455 : (Jvm.Cond.methodLink "VerseCommittee" (113 : Nat) ({ cls := "VerseCommittee$Verses", name := "has", desc := "(I)Z" } : Jvm.MethodName)) ∈ BIG := big_mem 603 (by decide +kernel) rfl
theorem mw_456 : (Jvm.Cond.instanceMethod ({ cls := "VerseCommittee$Verses", name := "has", desc := "(I)Z" } : Jvm.MethodName)) ∈ BIG := big_mem 604 (by decide +kernel) rfl
theorem mw_457 : (Jvm.Cond.selects "VerseCommittee$Verses" ({ cls := "VerseCommittee$Verses", name := "has", desc := "(I)Z" } : Jvm.MethodName) ({ cls := "VerseCommittee$Verses", name := "has", desc := "(I)Z" } : Jvm.MethodName)) ∈ BIG := big_mem 605 (by decide +kernel) rfl
theorem mw_458 : (Jvm.Cond.code ({ cls := "VerseCommittee$Verses", name := "has", desc := "(I)Z" } : Jvm.MethodName) prog_11_method_3_code (2 : Nat) (Option.some Jvm.ClassFile.FieldType.boolean)) ∈ BIG := big_mem 606 (by decide +kernel) rfl
theorem mw_462 : (Jvm.Cond.methodLink "VerseCommittee" (119 : Nat) ({ cls := "VerseCommittee", name := "tapeHas", desc := "(II)Z" } : Jvm.MethodName)) ∈ BIG := big_mem 610 (by decide +kernel) rfl
theorem mw_464 : (Jvm.Cond.instanceMethod ({ cls := "VerseCommittee", name := "tapeHas", desc := "(II)Z" } : Jvm.MethodName)) ∈ BIG := big_mem 612 (by decide +kernel) rfl
theorem mw_465 : (Jvm.Cond.code ({ cls := "VerseCommittee", name := "tapeHas", desc := "(II)Z" } : Jvm.MethodName) prog_1_method_48_code (3 : Nat) (Option.some Jvm.ClassFile.FieldType.boolean)) ∈ BIG := big_mem 613 (by decide +kernel) rfl
theorem mw_507 : (Jvm.Cond.methodLink "VerseCommittee" (136 : Nat) ({ cls := "VerseCommittee", name := "isEdition", desc := "(I)Z" } : Jvm.MethodName)) ∈ BIG := big_mem 655 (by decide +kernel) rfl
theorem mw_508 : (Jvm.Cond.static ({ cls := "VerseCommittee", name := "isEdition", desc := "(I)Z" } : Jvm.MethodName)) ∈ BIG := big_mem 656 (by decide +kernel) rfl
theorem mw_509 : (Jvm.Cond.code ({ cls := "VerseCommittee", name := "isEdition", desc := "(I)Z" } : Jvm.MethodName) prog_1_method_45_code (1 : Nat) (Option.some Jvm.ClassFile.FieldType.boolean)) ∈ BIG := big_mem 657 (by decide +kernel) rfl
theorem mw_510 : (Jvm.Cond.methodLink "VerseCommittee" (139 : Nat) ({ cls := "VerseCommittee$Words", name := "has", desc := "(I)Z" } : Jvm.MethodName)) ∈ BIG := big_mem 658 (by decide +kernel) rfl
theorem mw_511 : (Jvm.Cond.instanceMethod ({ cls := "VerseCommittee$Words", name := "has", desc := "(I)Z" } : Jvm.MethodName)) ∈ BIG := big_mem 659 (by decide +kernel) rfl
theorem mw_512 : (Jvm.Cond.selects "VerseCommittee$Words" ({ cls := "VerseCommittee$Words", name := "has", desc := "(I)Z" } : Jvm.MethodName) ({ cls := "VerseCommittee$Words", name := "has", desc := "(I)Z" } : Jvm.MethodName)) ∈ BIG := big_mem 660 (by decide +kernel) rfl
theorem mw_513 : (Jvm.Cond.code ({ cls := "VerseCommittee$Words", name := "has", desc := "(I)Z" } : Jvm.MethodName) prog_12_method_3_code (2 : Nat) (Option.some Jvm.ClassFile.FieldType.boolean)) ∈ BIG := big_mem 661 (by decide +kernel) rfl
theorem mw_538 : (Jvm.Cond.methodLink "VerseCommittee" (147 : Nat) ({ cls := "VerseCommittee", name := "isRate", desc := "(I)Z" } : Jvm.MethodName)) ∈ BIG := big_mem 686 (by decide +kernel) rfl
theorem mw_539 : (Jvm.Cond.static ({ cls := "VerseCommittee", name := "isRate", desc := "(I)Z" } : Jvm.MethodName)) ∈ BIG := big_mem 687 (by decide +kernel) rfl
theorem mw_540 : (Jvm.Cond.code ({ cls := "VerseCommittee", name := "isRate", desc := "(I)Z" } : Jvm.MethodName) prog_1_method_46_code (1 : Nat) (Option.some Jvm.ClassFile.FieldType.boolean)) ∈ BIG := big_mem 688 (by decide +kernel) rfl
theorem mw_541 : (Jvm.Cond.methodLink "VerseCommittee" (150 : Nat) ({ cls := "VerseCommittee$People", name := "enterCompany", desc := "(II)I" } : Jvm.MethodName)) ∈ BIG := big_mem 689 (by decide +kernel) rfl
theorem mw_542 : (Jvm.Cond.instanceMethod ({ cls := "VerseCommittee$People", name := "enterCompany", desc := "(II)I" } : Jvm.MethodName)) ∈ BIG := big_mem 690 (by decide +kernel) rfl
theorem mw_543 : (Jvm.Cond.selects "VerseCommittee$People" ({ cls := "VerseCommittee$People", name := "enterCompany", desc := "(II)I" } : Jvm.MethodName) ({ cls := "VerseCommittee$People", name := "enterCompany", desc := "(II)I" } : Jvm.MethodName)) ∈ BIG := big_mem 691 (by decide +kernel) rfl
theorem mw_544 : (Jvm.Cond.code ({ cls := "VerseCommittee$People", name := "enterCompany", desc := "(II)I" } : Jvm.MethodName) prog_6_method_6_code (3 : Nat) (Option.some Jvm.ClassFile.FieldType.int)) ∈ BIG := big_mem 692 (by decide +kernel) rfl
theorem mw_549 : (Jvm.Cond.methodLink "VerseCommittee" (153 : Nat) ({ cls := "VerseCommittee$People", name := "setCentreRate", desc := "(I)V" } : Jvm.MethodName)) ∈ BIG := big_mem 697 (by decide +kernel) rfl
theorem mw_550 : (Jvm.Cond.instanceMethod ({ cls := "VerseCommittee$People", name := "setCentreRate", desc := "(I)V" } : Jvm.MethodName)) ∈ BIG := big_mem 698 (by decide +kernel) rfl
theorem mw_551 : (Jvm.Cond.selects "VerseCommittee$People" ({ cls := "VerseCommittee$People", name := "setCentreRate", desc := "(I)V" } : Jvm.MethodName) ({ cls := "VerseCommittee$People", name := "setCentreRate", desc := "(I)V" } : Jvm.MethodName)) ∈ BIG := big_mem 699 (by decide +kernel) rfl
theorem mw_552 : (Jvm.Cond.code ({ cls := "VerseCommittee$People", name := "setCentreRate", desc := "(I)V" } : Jvm.MethodName) prog_6_method_8_code (2 : Nat) (Option.none : Option Jvm.ClassFile.FieldType)) ∈ BIG := big_mem 700 (by decide +kernel) rfl
theorem mw_557 : (Jvm.Cond.methodLink "VerseCommittee" (156 : Nat) ({ cls := "VerseCommittee$People", name := "hasCompany", desc := "(I)Z" } : Jvm.MethodName)) ∈ BIG := big_mem 705 (by decide +kernel) rfl
theorem mw_558 : (Jvm.Cond.instanceMethod ({ cls := "VerseCommittee$People", name := "hasCompany", desc := "(I)Z" } : Jvm.MethodName)) ∈ BIG := big_mem 706 (by decide +kernel) rfl
theorem mw_559 : (Jvm.Cond.selects "VerseCommittee$People" ({ cls := "VerseCommittee$People", name := "hasCompany", desc := "(I)Z" } : Jvm.MethodName) ({ cls := "VerseCommittee$People", name := "hasCompany", desc := "(I)Z" } : Jvm.MethodName)) ∈ BIG := big_mem 707 (by decide +kernel) rfl
theorem mw_560 : (Jvm.Cond.code ({ cls := "VerseCommittee$People", name := "hasCompany", desc := "(I)Z" } : Jvm.MethodName) prog_6_method_4_code (2 : Nat) (Option.some Jvm.ClassFile.FieldType.boolean)) ∈ BIG := big_mem 708 (by decide +kernel) rfl
theorem mw_570 : (Jvm.Cond.methodLink "VerseCommittee" (163 : Nat) ({ cls := "VerseCommittee$Laws", name := "isFull", desc := "()Z" } : Jvm.MethodName)) ∈ BIG := big_mem 718 (by decide +kernel) rfl
theorem mw_571 : (Jvm.Cond.instanceMethod ({ cls := "VerseCommittee$Laws", name := "isFull", desc := "()Z" } : Jvm.MethodName)) ∈ BIG := big_mem 719 (by decide +kernel) rfl
theorem mw_572 : (Jvm.Cond.selects "VerseCommittee$Laws" ({ cls := "VerseCommittee$Laws", name := "isFull", desc := "()Z" } : Jvm.MethodName) ({ cls := "VerseCommittee$Laws", name := "isFull", desc := "()Z" } : Jvm.MethodName)) ∈ BIG := big_mem 720 (by decide +kernel) rfl
theorem mw_573 : (Jvm.Cond.code ({ cls := "VerseCommittee$Laws", name := "isFull", desc := "()Z" } : Jvm.MethodName) prog_4_method_3_code (1 : Nat) (Option.some Jvm.ClassFile.FieldType.boolean)) ∈ BIG := big_mem 721 (by decide +kernel) rfl
theorem mw_686 : (Jvm.Cond.methodLink "VerseCommittee" (182 : Nat) ({ cls := "VerseCommittee$Laws", name := "hasClause", desc := "(II)Z" } : Jvm.MethodName)) ∈ BIG := big_mem 834 (by decide +kernel) rfl
theorem mw_687 : (Jvm.Cond.instanceMethod ({ cls := "VerseCommittee$Laws", name := "hasClause", desc := "(II)Z" } : Jvm.MethodName)) ∈ BIG := big_mem 835 (by decide +kernel) rfl
theorem mw_688 : (Jvm.Cond.selects "VerseCommittee$Laws" ({ cls := "VerseCommittee$Laws", name := "hasClause", desc := "(II)Z" } : Jvm.MethodName) ({ cls := "VerseCommittee$Laws", name := "hasClause", desc := "(II)Z" } : Jvm.MethodName)) ∈ BIG := big_mem 836 (by decide +kernel) rfl
theorem mw_689 : (Jvm.Cond.code ({ cls := "VerseCommittee$Laws", name := "hasClause", desc := "(II)Z" } : Jvm.MethodName) prog_4_method_8_code (3 : Nat) (Option.some Jvm.ClassFile.FieldType.boolean)) ∈ BIG := big_mem 837 (by decide +kernel) rfl
theorem mw_690 : (Jvm.Cond.methodLink "VerseCommittee$Laws" (48 : Nat) ({ cls := "VerseCommittee$Laws", name := "clausesOf", desc := "(I)I" } : Jvm.MethodName)) ∈ BIG := big_mem 838 (by decide +kernel) rfl
theorem mw_691 : (Jvm.Cond.instanceMethod ({ cls := "VerseCommittee$Laws", name := "clausesOf", desc := "(I)I" } : Jvm.MethodName)) ∈ BIG := big_mem 839 (by decide +kernel) rfl
theorem mw_692 : (Jvm.Cond.selects "VerseCommittee$Laws" ({ cls := "VerseCommittee$Laws", name := "clausesOf", desc := "(I)I" } : Jvm.MethodName) ({ cls := "VerseCommittee$Laws", name := "clausesOf", desc := "(I)I" } : Jvm.MethodName)) ∈ BIG := big_mem 840 (by decide +kernel) rfl
theorem mw_693 : (Jvm.Cond.code ({ cls := "VerseCommittee$Laws", name := "clausesOf", desc := "(I)I" } : Jvm.MethodName) prog_4_method_7_code (2 : Nat) (Option.some Jvm.ClassFile.FieldType.int)) ∈ BIG := big_mem 841 (by decide +kernel) rfl
theorem mw_715 : (Jvm.Cond.instanceMethod ({ cls := "VerseCommittee$Laws", name := "size", desc := "()I" } : Jvm.MethodName)) ∈ BIG := big_mem 863 (by decide +kernel) rfl
theorem mw_716 : (Jvm.Cond.selects "VerseCommittee$Laws" ({ cls := "VerseCommittee$Laws", name := "size", desc := "()I" } : Jvm.MethodName) ({ cls := "VerseCommittee$Laws", name := "size", desc := "()I" } : Jvm.MethodName)) ∈ BIG := big_mem 864 (by decide +kernel) rfl
theorem mw_717 : (Jvm.Cond.code ({ cls := "VerseCommittee$Laws", name := "size", desc := "()I" } : Jvm.MethodName) prog_4_method_2_code (1 : Nat) (Option.some Jvm.ClassFile.FieldType.int)) ∈ BIG := big_mem 865 (by decide +kernel) rfl
theorem mw_857 : (Jvm.Cond.methodLink "VerseCommittee" (218 : Nat) ({ cls := "VerseCommittee$People", name := "hasScholar", desc := "(I)Z" } : Jvm.MethodName)) ∈ BIG := big_mem 1005 (by decide +kernel) rfl
theorem mw_858 : (Jvm.Cond.instanceMethod ({ cls := "VerseCommittee$People", name := "hasScholar", desc := "(I)Z" } : Jvm.MethodName)) ∈ BIG := big_mem 1006 (by decide +kernel) rfl
theorem mw_859 : (Jvm.Cond.selects "VerseCommittee$People" ({ cls := "VerseCommittee$People", name := "hasScholar", desc := "(I)Z" } : Jvm.MethodName) ({ cls := "VerseCommittee$People", name := "hasScholar", desc := "(I)Z" } : Jvm.MethodName)) ∈ BIG := big_mem 1007 (by decide +kernel) rfl
theorem mw_860 : (Jvm.Cond.code ({ cls := "VerseCommittee$People", name := "hasScholar", desc := "(I)Z" } : Jvm.MethodName) prog_6_method_5_code (2 : Nat) (Option.some Jvm.ClassFile.FieldType.boolean)) ∈ BIG := big_mem 1008 (by decide +kernel) rfl
theorem mw_936 : (Jvm.Cond.methodLink "VerseCommittee" (240 : Nat) ({ cls := "VerseCommittee$Shelf", name := "at", desc := "(I)LVerseCommittee$Rendering;" } : Jvm.MethodName)) ∈ BIG := big_mem 1084 (by decide +kernel) rfl
theorem mw_937 : (Jvm.Cond.instanceMethod ({ cls := "VerseCommittee$Shelf", name := "at", desc := "(I)LVerseCommittee$Rendering;" } : Jvm.MethodName)) ∈ BIG := big_mem 1085 (by decide +kernel) rfl
theorem mw_938 : (Jvm.Cond.selects "VerseCommittee$Shelf" ({ cls := "VerseCommittee$Shelf", name := "at", desc := "(I)LVerseCommittee$Rendering;" } : Jvm.MethodName) ({ cls := "VerseCommittee$Shelf", name := "at", desc := "(I)LVerseCommittee$Rendering;" } : Jvm.MethodName)) ∈ BIG := big_mem 1086 (by decide +kernel) rfl
theorem mw_939 : (Jvm.Cond.code ({ cls := "VerseCommittee$Shelf", name := "at", desc := "(I)LVerseCommittee$Rendering;" } : Jvm.MethodName) prog_10_method_5_code (2 : Nat) (Option.some (Jvm.ClassFile.FieldType.object "VerseCommittee$Rendering"))) ∈ BIG := big_mem 1087 (by decide +kernel) rfl
theorem mw_989 : (Jvm.Cond.instanceMethod ({ cls := "VerseCommittee$Shelf", name := "fixedAt", desc := "(I)LVerseCommittee$Rendering;" } : Jvm.MethodName)) ∈ BIG := big_mem 1137 (by decide +kernel) rfl
theorem mw_990 : (Jvm.Cond.selects "VerseCommittee$Shelf" ({ cls := "VerseCommittee$Shelf", name := "fixedAt", desc := "(I)LVerseCommittee$Rendering;" } : Jvm.MethodName) ({ cls := "VerseCommittee$Shelf", name := "fixedAt", desc := "(I)LVerseCommittee$Rendering;" } : Jvm.MethodName)) ∈ BIG := big_mem 1138 (by decide +kernel) rfl
theorem mw_991 : (Jvm.Cond.code ({ cls := "VerseCommittee$Shelf", name := "fixedAt", desc := "(I)LVerseCommittee$Rendering;" } : Jvm.MethodName) prog_10_method_7_code (2 : Nat) (Option.some (Jvm.ClassFile.FieldType.object "VerseCommittee$Rendering"))) ∈ BIG := big_mem 1139 (by decide +kernel) rfl
theorem mw_992 : (Jvm.Cond.methodLink "VerseCommittee$Shelf" (38 : Nat) ({ cls := "VerseCommittee$Shelf", name := "fixedNumber", desc := "(I)I" } : Jvm.MethodName)) ∈ BIG := big_mem 1140 (by decide +kernel) rfl
theorem mw_993 : (Jvm.Cond.instanceMethod ({ cls := "VerseCommittee$Shelf", name := "fixedNumber", desc := "(I)I" } : Jvm.MethodName)) ∈ BIG := big_mem 1141 (by decide +kernel) rfl
theorem mw_994 : (Jvm.Cond.selects "VerseCommittee$Shelf" ({ cls := "VerseCommittee$Shelf", name := "fixedNumber", desc := "(I)I" } : Jvm.MethodName) ({ cls := "VerseCommittee$Shelf", name := "fixedNumber", desc := "(I)I" } : Jvm.MethodName)) ∈ BIG := big_mem 1142 (by decide +kernel) rfl
theorem mw_995 : (Jvm.Cond.code ({ cls := "VerseCommittee$Shelf", name := "fixedNumber", desc := "(I)I" } : Jvm.MethodName) prog_10_method_6_code (2 : Nat) (Option.some Jvm.ClassFile.FieldType.int)) ∈ BIG := big_mem 1143 (by decide +kernel) rfl
theorem mw_996 : (Jvm.Cond.methodLink "VerseCommittee$Shelf" (42 : Nat) ({ cls := "VerseCommittee$Shelf", name := "at", desc := "(I)LVerseCommittee$Rendering;" } : Jvm.MethodName)) ∈ BIG := big_mem 1144 (by decide +kernel) rfl
theorem mw_1056 : (Jvm.Cond.methodLink "VerseCommittee" (286 : Nat) ({ cls := "VerseCommittee$Shelf", name := "fixedNumber", desc := "(I)I" } : Jvm.MethodName)) ∈ BIG := big_mem 1204 (by decide +kernel) rfl
theorem mw_1061 : (Jvm.Cond.methodLink "VerseCommittee" (289 : Nat) ({ cls := "VerseCommittee", name := "isPastDay", desc := "(I)Z" } : Jvm.MethodName)) ∈ BIG := big_mem 1209 (by decide +kernel) rfl
theorem mw_1063 : (Jvm.Cond.instanceMethod ({ cls := "VerseCommittee", name := "isPastDay", desc := "(I)Z" } : Jvm.MethodName)) ∈ BIG := big_mem 1211 (by decide +kernel) rfl
theorem mw_1064 : (Jvm.Cond.code ({ cls := "VerseCommittee", name := "isPastDay", desc := "(I)Z" } : Jvm.MethodName) prog_1_method_43_code (2 : Nat) (Option.some Jvm.ClassFile.FieldType.boolean)) ∈ BIG := big_mem 1212 (by decide +kernel) rfl
theorem mw_1065 : (Jvm.Cond.methodLink "VerseCommittee" (292 : Nat) ({ cls := "VerseCommittee$Shelf", name := "fixedThen", desc := "(II)I" } : Jvm.MethodName)) ∈ BIG := big_mem 1213 (by decide +kernel) rfl
theorem mw_1066 : (Jvm.Cond.instanceMethod ({ cls := "VerseCommittee$Shelf", name := "fixedThen", desc := "(II)I" } : Jvm.MethodName)) ∈ BIG := big_mem 1214 (by decide +kernel) rfl
theorem mw_1067 : (Jvm.Cond.selects "VerseCommittee$Shelf" ({ cls := "VerseCommittee$Shelf", name := "fixedThen", desc := "(II)I" } : Jvm.MethodName) ({ cls := "VerseCommittee$Shelf", name := "fixedThen", desc := "(II)I" } : Jvm.MethodName)) ∈ BIG := big_mem 1215 (by decide +kernel) rfl
theorem mw_1068 : (Jvm.Cond.code ({ cls := "VerseCommittee$Shelf", name := "fixedThen", desc := "(II)I" } : Jvm.MethodName) prog_10_method_8_code (4 : Nat) (Option.some Jvm.ClassFile.FieldType.int)) ∈ BIG := big_mem 1216 (by decide +kernel) rfl
theorem mw_1115 : (Jvm.Cond.methodLink "VerseCommittee" (299 : Nat) ({ cls := "VerseCommittee$Findings", name := "seen", desc := "()I" } : Jvm.MethodName)) ∈ BIG := big_mem 1263 (by decide +kernel) rfl
theorem mw_1116 : (Jvm.Cond.instanceMethod ({ cls := "VerseCommittee$Findings", name := "seen", desc := "()I" } : Jvm.MethodName)) ∈ BIG := big_mem 1264 (by decide +kernel) rfl
theorem mw_1117 : (Jvm.Cond.selects "VerseCommittee$Findings" ({ cls := "VerseCommittee$Findings", name := "seen", desc := "()I" } : Jvm.MethodName) ({ cls := "VerseCommittee$Findings", name := "seen", desc := "()I" } : Jvm.MethodName)) ∈ BIG := big_mem 1265 (by decide +kernel) rfl
theorem mw_1118 : (Jvm.Cond.code ({ cls := "VerseCommittee$Findings", name := "seen", desc := "()I" } : Jvm.MethodName) prog_3_method_2_code (1 : Nat) (Option.some Jvm.ClassFile.FieldType.int)) ∈ BIG := big_mem 1266 (by decide +kernel) rfl
theorem mw_1145 : (Jvm.Cond.methodLink "VerseCommittee" (308 : Nat) ({ cls := "VerseCommittee$Findings", name := "seekUnlike", desc := "(II)Z" } : Jvm.MethodName)) ∈ BIG := big_mem 1293 (by decide +kernel) rfl
theorem mw_1146 : (Jvm.Cond.instanceMethod ({ cls := "VerseCommittee$Findings", name := "seekUnlike", desc := "(II)Z" } : Jvm.MethodName)) ∈ BIG := big_mem 1294 (by decide +kernel) rfl
theorem mw_1147 : (Jvm.Cond.selects "VerseCommittee$Findings" ({ cls := "VerseCommittee$Findings", name := "seekUnlike", desc := "(II)Z" } : Jvm.MethodName) ({ cls := "VerseCommittee$Findings", name := "seekUnlike", desc := "(II)Z" } : Jvm.MethodName)) ∈ BIG := big_mem 1295 (by decide +kernel) rfl
theorem mw_1148 : (Jvm.Cond.code ({ cls := "VerseCommittee$Findings", name := "seekUnlike", desc := "(II)Z" } : Jvm.MethodName) prog_3_method_9_code (5 : Nat) (Option.some Jvm.ClassFile.FieldType.boolean)) ∈ BIG := big_mem 1296 (by decide +kernel) rfl
theorem mw_1149 : (Jvm.Cond.methodLink "VerseCommittee$Findings" (136 : Nat) ({ cls := "VerseCommittee$Verses", name := "size", desc := "()I" } : Jvm.MethodName)) ∈ BIG := big_mem 1297 (by decide +kernel) rfl
theorem mw_1150 : (Jvm.Cond.instanceMethod ({ cls := "VerseCommittee$Verses", name := "size", desc := "()I" } : Jvm.MethodName)) ∈ BIG := big_mem 1298 (by decide +kernel) rfl
theorem mw_1151 : (Jvm.Cond.selects "VerseCommittee$Verses" ({ cls := "VerseCommittee$Verses", name := "size", desc := "()I" } : Jvm.MethodName) ({ cls := "VerseCommittee$Verses", name := "size", desc := "()I" } : Jvm.MethodName)) ∈ BIG := big_mem 1299 (by decide +kernel) rfl
theorem mw_1152 : (Jvm.Cond.code ({ cls := "VerseCommittee$Verses", name := "size", desc := "()I" } : Jvm.MethodName) prog_11_method_2_code (1 : Nat) (Option.some Jvm.ClassFile.FieldType.int)) ∈ BIG := big_mem 1300 (by decide +kernel) rfl
theorem mw_1190 : (Jvm.Cond.methodLink "VerseCommittee" (311 : Nat) ({ cls := "VerseCommittee", name := "isSign", desc := "(I)Z" } : Jvm.MethodName)) ∈ BIG := big_mem 1338 (by decide +kernel) rfl
theorem mw_1191 : (Jvm.Cond.static ({ cls := "VerseCommittee", name := "isSign", desc := "(I)Z" } : Jvm.MethodName)) ∈ BIG := big_mem 1339 (by decide +kernel) rfl
theorem mw_1192 : (Jvm.Cond.code ({ cls := "VerseCommittee", name := "isSign", desc := "(I)Z" } : Jvm.MethodName) prog_1_method_47_code (1 : Nat) (Option.some Jvm.ClassFile.FieldType.boolean)) ∈ BIG := big_mem 1340 (by decide +kernel) rfl
theorem mw_1209 : (Jvm.Cond.methodLink "VerseCommittee" (316 : Nat) ({ cls := "VerseCommittee$Choices", name := "part", desc := "(II)Z" } : Jvm.MethodName)) ∈ BIG := big_mem 1357 (by decide +kernel) rfl
theorem mw_1210 : (Jvm.Cond.instanceMethod ({ cls := "VerseCommittee$Choices", name := "part", desc := "(II)Z" } : Jvm.MethodName)) ∈ BIG := big_mem 1358 (by decide +kernel) rfl
theorem mw_1211 : (Jvm.Cond.selects "VerseCommittee$Choices" ({ cls := "VerseCommittee$Choices", name := "part", desc := "(II)Z" } : Jvm.MethodName) ({ cls := "VerseCommittee$Choices", name := "part", desc := "(II)Z" } : Jvm.MethodName)) ∈ BIG := big_mem 1359 (by decide +kernel) rfl
theorem mw_1212 : (Jvm.Cond.code ({ cls := "VerseCommittee$Choices", name := "part", desc := "(II)Z" } : Jvm.MethodName) prog_2_method_4_code (3 : Nat) (Option.some Jvm.ClassFile.FieldType.boolean)) ∈ BIG := big_mem 1360 (by decide +kernel) rfl
theorem mw_1213 : (Jvm.Cond.methodLink "VerseCommittee$Choices" (63 : Nat) ({ cls := "VerseCommittee$Choices", name := "arePart", desc := "(II)Z" } : Jvm.MethodName)) ∈ BIG := big_mem 1361 (by decide +kernel) rfl
theorem mw_1215 : (Jvm.Cond.instanceMethod ({ cls := "VerseCommittee$Choices", name := "arePart", desc := "(II)Z" } : Jvm.MethodName)) ∈ BIG := big_mem 1363 (by decide +kernel) rfl
theorem mw_1216 : (Jvm.Cond.code ({ cls := "VerseCommittee$Choices", name := "arePart", desc := "(II)Z" } : Jvm.MethodName) prog_2_method_9_code (3 : Nat) (Option.some Jvm.ClassFile.FieldType.boolean)) ∈ BIG := big_mem 1364 (by decide +kernel) rfl
theorem mw_1221 : (Jvm.Cond.methodLink "VerseCommittee" (319 : Nat) ({ cls := "VerseCommittee$Choices", name := "readRow", desc := "(I)Z" } : Jvm.MethodName)) ∈ BIG := big_mem 1369 (by decide +kernel) rfl
theorem mw_1222 : (Jvm.Cond.instanceMethod ({ cls := "VerseCommittee$Choices", name := "readRow", desc := "(I)Z" } : Jvm.MethodName)) ∈ BIG := big_mem 1370 (by decide +kernel) rfl
theorem mw_1223 : (Jvm.Cond.selects "VerseCommittee$Choices" ({ cls := "VerseCommittee$Choices", name := "readRow", desc := "(I)Z" } : Jvm.MethodName) ({ cls := "VerseCommittee$Choices", name := "readRow", desc := "(I)Z" } : Jvm.MethodName)) ∈ BIG := big_mem 1371 (by decide +kernel) rfl
theorem mw_1224 : (Jvm.Cond.code ({ cls := "VerseCommittee$Choices", name := "readRow", desc := "(I)Z" } : Jvm.MethodName) prog_2_method_10_code (4 : Nat) (Option.some Jvm.ClassFile.FieldType.boolean)) ∈ BIG := big_mem 1372 (by decide +kernel) rfl
theorem mw_1225 : (Jvm.Cond.methodLink "VerseCommittee" (322 : Nat) ({ cls := "VerseCommittee$Choices", name := "reckon", desc := "(I)V" } : Jvm.MethodName)) ∈ BIG := big_mem 1373 (by decide +kernel) rfl
theorem mw_1226 : (Jvm.Cond.instanceMethod ({ cls := "VerseCommittee$Choices", name := "reckon", desc := "(I)V" } : Jvm.MethodName)) ∈ BIG := big_mem 1374 (by decide +kernel) rfl
theorem mw_1227 : (Jvm.Cond.selects "VerseCommittee$Choices" ({ cls := "VerseCommittee$Choices", name := "reckon", desc := "(I)V" } : Jvm.MethodName) ({ cls := "VerseCommittee$Choices", name := "reckon", desc := "(I)V" } : Jvm.MethodName)) ∈ BIG := big_mem 1375 (by decide +kernel) rfl
theorem mw_1228 : (Jvm.Cond.code ({ cls := "VerseCommittee$Choices", name := "reckon", desc := "(I)V" } : Jvm.MethodName) prog_2_method_16_code (4 : Nat) (Option.none : Option Jvm.ClassFile.FieldType)) ∈ BIG := big_mem 1376 (by decide +kernel) rfl
theorem mw_1260 : (Jvm.Cond.methodLink "VerseCommittee" (325 : Nat) ({ cls := "VerseCommittee$Choices", name := "priceOfRow", desc := "()I" } : Jvm.MethodName)) ∈ BIG := big_mem 1408 (by decide +kernel) rfl
theorem mw_1261 : (Jvm.Cond.instanceMethod ({ cls := "VerseCommittee$Choices", name := "priceOfRow", desc := "()I" } : Jvm.MethodName)) ∈ BIG := big_mem 1409 (by decide +kernel) rfl
theorem mw_1262 : (Jvm.Cond.selects "VerseCommittee$Choices" ({ cls := "VerseCommittee$Choices", name := "priceOfRow", desc := "()I" } : Jvm.MethodName) ({ cls := "VerseCommittee$Choices", name := "priceOfRow", desc := "()I" } : Jvm.MethodName)) ∈ BIG := big_mem 1410 (by decide +kernel) rfl
theorem mw_1263 : (Jvm.Cond.code ({ cls := "VerseCommittee$Choices", name := "priceOfRow", desc := "()I" } : Jvm.MethodName) prog_2_method_5_code (3 : Nat) (Option.some Jvm.ClassFile.FieldType.int)) ∈ BIG := big_mem 1411 (by decide +kernel) rfl
theorem mw_1276 : (Jvm.Cond.methodLink "VerseCommittee" (328 : Nat) ({ cls := "VerseCommittee$Choices", name := "leastPriced", desc := "()I" } : Jvm.MethodName)) ∈ BIG := big_mem 1424 (by decide +kernel) rfl
theorem mw_1277 : (Jvm.Cond.instanceMethod ({ cls := "VerseCommittee$Choices", name := "leastPriced", desc := "()I" } : Jvm.MethodName)) ∈ BIG := big_mem 1425 (by decide +kernel) rfl
theorem mw_1278 : (Jvm.Cond.selects "VerseCommittee$Choices" ({ cls := "VerseCommittee$Choices", name := "leastPriced", desc := "()I" } : Jvm.MethodName) ({ cls := "VerseCommittee$Choices", name := "leastPriced", desc := "()I" } : Jvm.MethodName)) ∈ BIG := big_mem 1426 (by decide +kernel) rfl
theorem mw_1279 : (Jvm.Cond.code ({ cls := "VerseCommittee$Choices", name := "leastPriced", desc := "()I" } : Jvm.MethodName) prog_2_method_6_code (1 : Nat) (Option.some Jvm.ClassFile.FieldType.int)) ∈ BIG := big_mem 1427 (by decide +kernel) rfl
theorem mw_1280 : (Jvm.Cond.constant "VerseCommittee$Choices" (70 : Nat) (2147483647 : Int32)) ∈ BIG := big_mem 1428 (by decide +kernel) rfl
theorem mw_1281 : (Jvm.Cond.methodLink "VerseCommittee$Choices" (77 : Nat) ({ cls := "VerseCommittee$Choices", name := "choose", desc := "(II)V" } : Jvm.MethodName)) ∈ BIG := big_mem 1429 (by decide +kernel) rfl
theorem mw_1283 : (Jvm.Cond.instanceMethod ({ cls := "VerseCommittee$Choices", name := "choose", desc := "(II)V" } : Jvm.MethodName)) ∈ BIG := big_mem 1431 (by decide +kernel) rfl
theorem mw_1284 : (Jvm.Cond.code ({ cls := "VerseCommittee$Choices", name := "choose", desc := "(II)V" } : Jvm.MethodName) prog_2_method_14_code (4 : Nat) (Option.none : Option Jvm.ClassFile.FieldType)) ∈ BIG := big_mem 1432 (by decide +kernel) rfl
theorem mw_1285 : (Jvm.Cond.methodLink "VerseCommittee$Choices" (84 : Nat) ({ cls := "VerseCommittee$Choices", name := "choiceOfRow", desc := "()I" } : Jvm.MethodName)) ∈ BIG := big_mem 1433 (by decide +kernel) rfl
theorem mw_1287 : (Jvm.Cond.instanceMethod ({ cls := "VerseCommittee$Choices", name := "choiceOfRow", desc := "()I" } : Jvm.MethodName)) ∈ BIG := big_mem 1435 (by decide +kernel) rfl
theorem mw_1288 : (Jvm.Cond.code ({ cls := "VerseCommittee$Choices", name := "choiceOfRow", desc := "()I" } : Jvm.MethodName) prog_2_method_11_code (3 : Nat) (Option.some Jvm.ClassFile.FieldType.int)) ∈ BIG := big_mem 1436 (by decide +kernel) rfl
theorem mw_1297 : (Jvm.Cond.methodLink "VerseCommittee" (331 : Nat) ({ cls := "VerseCommittee$Verses", name := "size", desc := "()I" } : Jvm.MethodName)) ∈ BIG := big_mem 1445 (by decide +kernel) rfl
theorem mw_1298 : (Jvm.Cond.methodLink "VerseCommittee" (334 : Nat) ({ cls := "VerseCommittee$Shelf", name := "fixedAt", desc := "(I)LVerseCommittee$Rendering;" } : Jvm.MethodName)) ∈ BIG := big_mem 1446 (by decide +kernel) rfl
theorem mw_1362 : (Jvm.Cond.methodLink "VerseCommittee" (373 : Nat) ({ cls := "VerseCommittee$Planner", name := "answer", desc := "(I)I" } : Jvm.MethodName)) ∈ BIG := big_mem 1510 (by decide +kernel) rfl
theorem mw_1363 : (Jvm.Cond.instanceMethod ({ cls := "VerseCommittee$Planner", name := "answer", desc := "(I)I" } : Jvm.MethodName)) ∈ BIG := big_mem 1511 (by decide +kernel) rfl
theorem mw_1364 : (Jvm.Cond.selects "VerseCommittee$Planner" ({ cls := "VerseCommittee$Planner", name := "answer", desc := "(I)I" } : Jvm.MethodName) ({ cls := "VerseCommittee$Planner", name := "answer", desc := "(I)I" } : Jvm.MethodName)) ∈ BIG := big_mem 1512 (by decide +kernel) rfl
theorem mw_1365 : (Jvm.Cond.code ({ cls := "VerseCommittee$Planner", name := "answer", desc := "(I)I" } : Jvm.MethodName) prog_7_method_2_code (3 : Nat) (Option.some Jvm.ClassFile.FieldType.int)) ∈ BIG := big_mem 1513 (by decide +kernel) rfl
theorem mw_1366 : (Jvm.Cond.methodLink "VerseCommittee$Planner" (41 : Nat) ({ cls := "VerseCommittee$Planner", name := "gatherBooks", desc := "()V" } : Jvm.MethodName)) ∈ BIG := big_mem 1514 (by decide +kernel) rfl
theorem mw_1368 : (Jvm.Cond.instanceMethod ({ cls := "VerseCommittee$Planner", name := "gatherBooks", desc := "()V" } : Jvm.MethodName)) ∈ BIG := big_mem 1516 (by decide +kernel) rfl
theorem mw_1369 : (Jvm.Cond.code ({ cls := "VerseCommittee$Planner", name := "gatherBooks", desc := "()V" } : Jvm.MethodName) prog_7_method_4_code (3 : Nat) (Option.none : Option Jvm.ClassFile.FieldType)) ∈ BIG := big_mem 1517 (by decide +kernel) rfl
theorem mw_1370 : (Jvm.Cond.methodLink "VerseCommittee$Planner" (77 : Nat) ({ cls := "VerseCommittee$Verses", name := "size", desc := "()I" } : Jvm.MethodName)) ∈ BIG := big_mem 1518 (by decide +kernel) rfl
theorem mw_1373 : (Jvm.Cond.constant "VerseCommittee$Planner" (44 : Nat) (2147483647 : Int32)) ∈ BIG := big_mem 1521 (by decide +kernel) rfl
theorem mw_1374 : (Jvm.Cond.methodLink "VerseCommittee$Planner" (49 : Nat) ({ cls := "VerseCommittee$Planner", name := "daysOfCentre", desc := "()I" } : Jvm.MethodName)) ∈ BIG := big_mem 1522 (by decide +kernel) rfl
theorem mw_1376 : (Jvm.Cond.instanceMethod ({ cls := "VerseCommittee$Planner", name := "daysOfCentre", desc := "()I" } : Jvm.MethodName)) ∈ BIG := big_mem 1524 (by decide +kernel) rfl
theorem mw_1377 : (Jvm.Cond.code ({ cls := "VerseCommittee$Planner", name := "daysOfCentre", desc := "()I" } : Jvm.MethodName) prog_7_method_5_code (3 : Nat) (Option.some Jvm.ClassFile.FieldType.int)) ∈ BIG := big_mem 1525 (by decide +kernel) rfl
theorem mw_1385 : (Jvm.Cond.methodLink "VerseCommittee$Planner" (53 : Nat) ({ cls := "VerseCommittee$Planner", name := "give", desc := "(II)V" } : Jvm.MethodName)) ∈ BIG := big_mem 1533 (by decide +kernel) rfl
theorem mw_1387 : (Jvm.Cond.instanceMethod ({ cls := "VerseCommittee$Planner", name := "give", desc := "(II)V" } : Jvm.MethodName)) ∈ BIG := big_mem 1535 (by decide +kernel) rfl
theorem mw_1388 : (Jvm.Cond.code ({ cls := "VerseCommittee$Planner", name := "give", desc := "(II)V" } : Jvm.MethodName) prog_7_method_8_code (4 : Nat) (Option.none : Option Jvm.ClassFile.FieldType)) ∈ BIG := big_mem 1536 (by decide +kernel) rfl
theorem mw_1390 : (Jvm.Cond.instanceMethod ({ cls := "VerseCommittee$People", name := "companies", desc := "()I" } : Jvm.MethodName)) ∈ BIG := big_mem 1538 (by decide +kernel) rfl
theorem mw_1391 : (Jvm.Cond.selects "VerseCommittee$People" ({ cls := "VerseCommittee$People", name := "companies", desc := "()I" } : Jvm.MethodName) ({ cls := "VerseCommittee$People", name := "companies", desc := "()I" } : Jvm.MethodName)) ∈ BIG := big_mem 1539 (by decide +kernel) rfl
theorem mw_1392 : (Jvm.Cond.code ({ cls := "VerseCommittee$People", name := "companies", desc := "()I" } : Jvm.MethodName) prog_6_method_2_code (1 : Nat) (Option.some Jvm.ClassFile.FieldType.int)) ∈ BIG := big_mem 1540 (by decide +kernel) rfl
theorem mw_1411 : (Jvm.Cond.methodLink "VerseCommittee" (376 : Nat) ({ cls := "VerseCommittee$Planner", name := "daysOf", desc := "(I)I" } : Jvm.MethodName)) ∈ BIG := big_mem 1559 (by decide +kernel) rfl
theorem mw_1412 : (Jvm.Cond.instanceMethod ({ cls := "VerseCommittee$Planner", name := "daysOf", desc := "(I)I" } : Jvm.MethodName)) ∈ BIG := big_mem 1560 (by decide +kernel) rfl
theorem mw_1413 : (Jvm.Cond.selects "VerseCommittee$Planner" ({ cls := "VerseCommittee$Planner", name := "daysOf", desc := "(I)I" } : Jvm.MethodName) ({ cls := "VerseCommittee$Planner", name := "daysOf", desc := "(I)I" } : Jvm.MethodName)) ∈ BIG := big_mem 1561 (by decide +kernel) rfl
theorem mw_1414 : (Jvm.Cond.code ({ cls := "VerseCommittee$Planner", name := "daysOf", desc := "(I)I" } : Jvm.MethodName) prog_7_method_3_code (6 : Nat) (Option.some Jvm.ClassFile.FieldType.int)) ∈ BIG := big_mem 1562 (by decide +kernel) rfl
theorem mw_1419 : (Jvm.Cond.methodLink "VerseCommittee" (379 : Nat) ({ cls := "VerseCommittee", name := "firstWrongByte", desc := "(I)I" } : Jvm.MethodName)) ∈ BIG := big_mem 1567 (by decide +kernel) rfl
theorem mw_1421 : (Jvm.Cond.instanceMethod ({ cls := "VerseCommittee", name := "firstWrongByte", desc := "(I)I" } : Jvm.MethodName)) ∈ BIG := big_mem 1569 (by decide +kernel) rfl
theorem mw_1422 : (Jvm.Cond.code ({ cls := "VerseCommittee", name := "firstWrongByte", desc := "(I)I" } : Jvm.MethodName) prog_1_method_56_code (5 : Nat) (Option.some Jvm.ClassFile.FieldType.int)) ∈ BIG := big_mem 1570 (by decide +kernel) rfl
theorem mw_1444 : (Jvm.Cond.methodLink "VerseCommittee" (385 : Nat) ({ cls := "VerseCommittee$Words", name := "size", desc := "()I" } : Jvm.MethodName)) ∈ BIG := big_mem 1592 (by decide +kernel) rfl
theorem mw_1445 : (Jvm.Cond.instanceMethod ({ cls := "VerseCommittee$Words", name := "size", desc := "()I" } : Jvm.MethodName)) ∈ BIG := big_mem 1593 (by decide +kernel) rfl
theorem mw_1446 : (Jvm.Cond.selects "VerseCommittee$Words" ({ cls := "VerseCommittee$Words", name := "size", desc := "()I" } : Jvm.MethodName) ({ cls := "VerseCommittee$Words", name := "size", desc := "()I" } : Jvm.MethodName)) ∈ BIG := big_mem 1594 (by decide +kernel) rfl
theorem mw_1447 : (Jvm.Cond.code ({ cls := "VerseCommittee$Words", name := "size", desc := "()I" } : Jvm.MethodName) prog_12_method_2_code (1 : Nat) (Option.some Jvm.ClassFile.FieldType.int)) ∈ BIG := big_mem 1595 (by decide +kernel) rfl
theorem mw_1448 : (Jvm.Cond.methodLink "VerseCommittee" (386 : Nat) ({ cls := "VerseCommittee$People", name := "companies", desc := "()I" } : Jvm.MethodName)) ∈ BIG := big_mem 1596 (by decide +kernel) rfl
theorem mw_1449 : (Jvm.Cond.methodLink "VerseCommittee" (389 : Nat) ({ cls := "VerseCommittee$People", name := "scholars", desc := "()I" } : Jvm.MethodName)) ∈ BIG := big_mem 1597 (by decide +kernel) rfl
theorem mw_1450 : (Jvm.Cond.instanceMethod ({ cls := "VerseCommittee$People", name := "scholars", desc := "()I" } : Jvm.MethodName)) ∈ BIG := big_mem 1598 (by decide +kernel) rfl
theorem mw_1451 : (Jvm.Cond.selects "VerseCommittee$People" ({ cls := "VerseCommittee$People", name := "scholars", desc := "()I" } : Jvm.MethodName) ({ cls := "VerseCommittee$People", name := "scholars", desc := "()I" } : Jvm.MethodName)) ∈ BIG := big_mem 1599 (by decide +kernel) rfl
theorem mw_1452 : (Jvm.Cond.code ({ cls := "VerseCommittee$People", name := "scholars", desc := "()I" } : Jvm.MethodName) prog_6_method_3_code (1 : Nat) (Option.some Jvm.ClassFile.FieldType.int)) ∈ BIG := big_mem 1600 (by decide +kernel) rfl
theorem mw_1453 : (Jvm.Cond.methodLink "VerseCommittee" (392 : Nat) ({ cls := "VerseCommittee$Laws", name := "size", desc := "()I" } : Jvm.MethodName)) ∈ BIG := big_mem 1601 (by decide +kernel) rfl
theorem mw_1454 : (Jvm.Cond.methodLink "VerseCommittee" (393 : Nat) ({ cls := "VerseCommittee$Shelf", name := "size", desc := "()I" } : Jvm.MethodName)) ∈ BIG := big_mem 1602 (by decide +kernel) rfl
theorem mw_1455 : (Jvm.Cond.instanceMethod ({ cls := "VerseCommittee$Shelf", name := "size", desc := "()I" } : Jvm.MethodName)) ∈ BIG := big_mem 1603 (by decide +kernel) rfl
theorem mw_1456 : (Jvm.Cond.selects "VerseCommittee$Shelf" ({ cls := "VerseCommittee$Shelf", name := "size", desc := "()I" } : Jvm.MethodName) ({ cls := "VerseCommittee$Shelf", name := "size", desc := "()I" } : Jvm.MethodName)) ∈ BIG := big_mem 1604 (by decide +kernel) rfl
theorem mw_1457 : (Jvm.Cond.code ({ cls := "VerseCommittee$Shelf", name := "size", desc := "()I" } : Jvm.MethodName) prog_10_method_2_code (1 : Nat) (Option.some Jvm.ClassFile.FieldType.int)) ∈ BIG := big_mem 1605 (by decide +kernel) rfl
theorem mw_1458 : (Jvm.Cond.methodLink "VerseCommittee" (394 : Nat) ({ cls := "VerseCommittee$Choices", name := "size", desc := "()I" } : Jvm.MethodName)) ∈ BIG := big_mem 1606 (by decide +kernel) rfl
theorem mw_1459 : (Jvm.Cond.instanceMethod ({ cls := "VerseCommittee$Choices", name := "size", desc := "()I" } : Jvm.MethodName)) ∈ BIG := big_mem 1607 (by decide +kernel) rfl
theorem mw_1460 : (Jvm.Cond.selects "VerseCommittee$Choices" ({ cls := "VerseCommittee$Choices", name := "size", desc := "()I" } : Jvm.MethodName) ({ cls := "VerseCommittee$Choices", name := "size", desc := "()I" } : Jvm.MethodName)) ∈ BIG := big_mem 1608 (by decide +kernel) rfl
theorem mw_1461 : (Jvm.Cond.code ({ cls := "VerseCommittee$Choices", name := "size", desc := "()I" } : Jvm.MethodName) prog_2_method_2_code (1 : Nat) (Option.some Jvm.ClassFile.FieldType.int)) ∈ BIG := big_mem 1609 (by decide +kernel) rfl
theorem mw_1462 : (Jvm.Cond.methodLink "VerseCommittee" (395 : Nat) ({ cls := "VerseCommittee$Shelf", name := "fixedVerses", desc := "()I" } : Jvm.MethodName)) ∈ BIG := big_mem 1610 (by decide +kernel) rfl
theorem mw_1463 : (Jvm.Cond.instanceMethod ({ cls := "VerseCommittee$Shelf", name := "fixedVerses", desc := "()I" } : Jvm.MethodName)) ∈ BIG := big_mem 1611 (by decide +kernel) rfl
theorem mw_1464 : (Jvm.Cond.selects "VerseCommittee$Shelf" ({ cls := "VerseCommittee$Shelf", name := "fixedVerses", desc := "()I" } : Jvm.MethodName) ({ cls := "VerseCommittee$Shelf", name := "fixedVerses", desc := "()I" } : Jvm.MethodName)) ∈ BIG := big_mem 1612 (by decide +kernel) rfl
theorem mw_1465 : (Jvm.Cond.code ({ cls := "VerseCommittee$Shelf", name := "fixedVerses", desc := "()I" } : Jvm.MethodName) prog_10_method_9_code (3 : Nat) (Option.some Jvm.ClassFile.FieldType.int)) ∈ BIG := big_mem 1613 (by decide +kernel) rfl
theorem mw_1466 : (Jvm.Cond.methodLink "VerseCommittee" (398 : Nat) ({ cls := "VerseCommittee$Shelf", name := "inState", desc := "(I)I" } : Jvm.MethodName)) ∈ BIG := big_mem 1614 (by decide +kernel) rfl
theorem mw_1467 : (Jvm.Cond.instanceMethod ({ cls := "VerseCommittee$Shelf", name := "inState", desc := "(I)I" } : Jvm.MethodName)) ∈ BIG := big_mem 1615 (by decide +kernel) rfl
theorem mw_1468 : (Jvm.Cond.selects "VerseCommittee$Shelf" ({ cls := "VerseCommittee$Shelf", name := "inState", desc := "(I)I" } : Jvm.MethodName) ({ cls := "VerseCommittee$Shelf", name := "inState", desc := "(I)I" } : Jvm.MethodName)) ∈ BIG := big_mem 1616 (by decide +kernel) rfl
theorem mw_1469 : (Jvm.Cond.code ({ cls := "VerseCommittee$Shelf", name := "inState", desc := "(I)I" } : Jvm.MethodName) prog_10_method_10_code (5 : Nat) (Option.some Jvm.ClassFile.FieldType.int)) ∈ BIG := big_mem 1617 (by decide +kernel) rfl
theorem iX0 : ∀ w ∈ u_ws RX0 TX0 14, w ∈ BIG := in_places [466, 468, 470, 472, 474, 476, 478, 480, 482, 484, 486, 488, 490, 492] (by decide +kernel) (by decide +kernel)
theorem iX1 : ∀ w ∈ u_ws RX1 TX1 13, w ∈ BIG := in_places [418, 420, 422, 424, 426, 428, 430, 432, 434, 436, 438, 440, 442] (by decide +kernel) (by decide +kernel)
theorem iX2 : ∀ w ∈ u_ws RX2 TX2 11, w ∈ BIG := in_places [266, 268, 270, 272, 274, 276, 278, 280, 282, 284, 286] (by decide +kernel) (by decide +kernel)
theorem iX3 : ∀ w ∈ u_ws RX3 TX3 7, w ∈ BIG := in_places [334, 336, 338, 340, 342, 344, 346] (by decide +kernel) (by decide +kernel)
theorem iX4 : ∀ w ∈ u_ws RX4 TX4 8, w ∈ BIG := in_places [231, 233, 235, 237, 239, 241, 243, 245] (by decide +kernel) (by decide +kernel)
theorem iX5 : ∀ w ∈ u_ws RX5 TX5 10, w ∈ BIG := in_places [512, 514, 516, 518, 520, 522, 524, 526, 528, 530] (by decide +kernel) (by decide +kernel)
theorem iX6 : ∀ w ∈ u_ws RX6 TX6 14, w ∈ BIG := in_places [370, 372, 374, 376, 378, 380, 382, 384, 386, 388, 390, 392, 394, 396] (by decide +kernel) (by decide +kernel)
theorem iX7 : ∀ w ∈ u_ws RX7 TX7 14, w ∈ BIG := in_places [1042, 1044, 1046, 1048, 1050, 1052, 1054, 1056, 1058, 1060, 1062, 1064, 1066, 1068] (by decide +kernel) (by decide +kernel)
theorem iX8 : ∀ w ∈ u_ws RX8 TX8 7, w ∈ BIG := in_places [304, 306, 308, 310, 312, 314, 316] (by decide +kernel) (by decide +kernel)
theorem iX9 : ∀ w ∈ u_ws RX9 TX9 6, w ∈ BIG := in_places [204, 206, 208, 210, 212, 214] (by decide +kernel) (by decide +kernel)
theorem iX10 : ∀ w ∈ u_ws RX10 TX10 3, w ∈ BIG := in_places [181, 183, 185] (by decide +kernel) (by decide +kernel)
theorem iX11 : ∀ w ∈ u_ws RX11 TX11 14, w ∈ BIG := in_places [547, 549, 551, 553, 555, 557, 559, 561, 563, 565, 567, 569, 571, 573] (by decide +kernel) (by decide +kernel)
theorem iX12 : ∀ w ∈ u_ws RX12 TX12 96, w ∈ BIG := in_places [1720, 1722, 1724, 1726, 1728, 1730, 1732, 1734, 1736, 1738, 1740, 1742, 1744, 1746, 1748, 1750, 1752, 1754, 1756, 1758, 1760, 1762, 1764, 1766, 1768, 1770, 1772, 1774, 1776, 1778, 1780, 1782, 1784, 1786, 1788, 1790, 1792, 1794, 1796, 1798, 1800, 1802, 1804, 1806, 1808, 1810, 1812, 1814, 1816, 1818, 1820, 1822, 1824, 1826, 1828, 1830, 1832, 1834, 1836, 1838, 1840, 1842, 1844, 1846, 1848, 1850, 1852, 1854, 1856, 1858, 1860, 1862, 1864, 1866, 1868, 1870, 1872, 1874, 1876, 1878, 1880, 1882, 1884, 1886, 1888, 1890, 1892, 1894, 1896, 1898, 1900, 1902, 1904, 1906, 1908, 1910] (by decide +kernel) (by decide +kernel)
theorem tI_m8 : (-8 : Int32).toInt = -8 := by decide
theorem tI_m2 : (-2 : Int32).toInt = -2 := by decide
theorem tI_m1 : (-1 : Int32).toInt = -1 := by decide
theorem tI_0 : (0 : Int32).toInt = 0 := by decide
theorem tI_1 : (1 : Int32).toInt = 1 := by decide
theorem tI_2 : (2 : Int32).toInt = 2 := by decide
theorem tI_3 : (3 : Int32).toInt = 3 := by decide
theorem tI_4 : (4 : Int32).toInt = 4 := by decide
theorem tI_5 : (5 : Int32).toInt = 5 := by decide
theorem tI_6 : (6 : Int32).toInt = 6 := by decide
theorem tI_7 : (7 : Int32).toInt = 7 := by decide
theorem tI_8 : (8 : Int32).toInt = 8 := by decide
theorem tI_9 : (9 : Int32).toInt = 9 := by decide
theorem tI_12 : (12 : Int32).toInt = 12 := by decide
theorem tI_16 : (16 : Int32).toInt = 16 := by decide
theorem tI_20 : (20 : Int32).toInt = 20 := by decide
theorem tI_24 : (24 : Int32).toInt = 24 := by decide
theorem tI_40 : (40 : Int32).toInt = 40 := by decide
theorem tI_60 : (60 : Int32).toInt = 60 := by decide
theorem tI_99 : (99 : Int32).toInt = 99 := by decide
theorem tI_160 : (160 : Int32).toInt = 160 := by decide
theorem tI_200 : (200 : Int32).toInt = 200 := by decide
theorem tI_255 : (255 : Int32).toInt = 255 := by decide
theorem tI_3999 : (3999 : Int32).toInt = 3999 := by decide
theorem tI_2147483647 : (2147483647 : Int32).toInt = 2147483647 := by decide
def XW (ct : Nat → ClassId) (ad : Nat → Nat) (iv : Nat → Int32) (ia : Nat → Nat → Int32) (la : Nat → Nat → Int64) (pt : Nat → Option Nat) (ra : Nat → Nat → Option Nat) (R : va_W) : va_W :=
  (ad 0, .inr (11, [.ref (ad 1), .ref (ad 2), .ref (ad 3), .ref (ad 6), .ref (ad 12), .ref (ad 16), .ref (ad 27), .ref (ad 33), .ref (ad 34), .ref (ad 35), .ref (ad 42), .ref (ad 50), .int (iv 0), .int (iv 1)])) ::
  (ad 1, .inl (ct 0, 200, .inl (ia 1))) ::
  (ad 2, .inl (ct 0, 13, .inl (ia 2))) ::
  (ad 3, .inr (10, [.ref (ad 4), .ref (ad 5), .int (iv 2)])) ::
  (ad 4, .inl (ct 1, 4800, .inl (ia 4))) ::
  (ad 5, .inl (ct 1, 400, .inl (ia 5))) ::
  (ad 6, .inr (9, [.ref (ad 7), .ref (ad 8), .ref (ad 9), .ref (ad 10), .ref (ad 11), .int (iv 3)])) ::
  (ad 7, .inl (ct 0, 60, .inl (ia 7))) ::
  (ad 8, .inl (ct 0, 60, .inl (ia 8))) ::
  (ad 9, .inl (ct 4, 180, .inr (.inr (.inr (.inr (ra 9)))))) ::
  (ad 10, .inl (ct 0, 480, .inl (ia 10))) ::
  (ad 11, .inl (ct 0, 480, .inl (ia 11))) ::
  (ad 12, .inr (4, [.ref (ad 13), .ref (ad 14), .ref (ad 15), .int (iv 4), .int (iv 5), .int (iv 6), .int (iv 7), .int (iv 8)])) ::
  (ad 13, .inl (ct 0, 6, .inl (ia 13))) ::
  (ad 14, .inl (ct 0, 6, .inl (ia 14))) ::
  (ad 15, .inl (ct 0, 6, .inl (ia 15))) ::
  (ad 16, .inr (2, [.ref (ad 17), .ref (ad 18), .ref (ad 19), .ref (ad 20), .ref (ad 21), .ref (ad 22), .ref (ad 23), .ref (ad 24), .ref (ad 25), .ref (ad 26), .int (iv 9)])) ::
  (ad 17, .inl (ct 4, 20, .inr (.inr (.inr (.inr (ra 17)))))) ::
  (ad 18, .inl (ct 0, 20, .inl (ia 18))) ::
  (ad 19, .inl (ct 0, 20, .inl (ia 19))) ::
  (ad 20, .inl (ct 0, 20, .inl (ia 20))) ::
  (ad 21, .inl (ct 0, 20, .inl (ia 21))) ::
  (ad 22, .inl (ct 0, 320, .inl (ia 22))) ::
  (ad 23, .inl (ct 0, 320, .inl (ia 23))) ::
  (ad 24, .inl (ct 0, 320, .inl (ia 24))) ::
  (ad 25, .inl (ct 0, 320, .inl (ia 25))) ::
  (ad 26, .inl (ct 0, 320, .inl (ia 26))) ::
  (ad 27, .inr (8, [.ref (ad 28), .ref (ad 29), .ref (ad 30), .ref (ad 31), .ref (ad 32), .int (iv 10), .int (iv 11)])) ::
  (ad 28, .inl (ct 5, 200, .inr (.inr (.inr (.inr (ra 28)))))) ::
  (ad 29, .inl (ct 0, 60, .inl (ia 29))) ::
  (ad 30, .inl (ct 0, 1024, .inl (ia 30))) ::
  (ad 31, .inl (ct 0, 1024, .inl (ia 31))) ::
  (ad 32, .inl (ct 0, 1024, .inl (ia 32))) ::
  (ad 33, .inr (3, [.ref (ad 16), va_rf (pt 0), .int (iv 12), .int (iv 13), .int (iv 14), .int (iv 15), .int (iv 16)])) ::
  (ad 34, .inr (6, [.ref (ad 16), .ref (ad 6), .ref (ad 12), .int (iv 17), .int (iv 18), .int (iv 19), .int (iv 20), .int (iv 21), .int (iv 22), .int (iv 23), .int (iv 24), va_rf (pt 1), .int (iv 25), .int (iv 26)])) ::
  (ad 35, .inr (1, [.ref (ad 16), .ref (ad 6), .ref (ad 34), .ref (ad 27), .ref (ad 36), .ref (ad 37), .ref (ad 38), .ref (ad 39), .ref (ad 40), .ref (ad 41), .int (iv 27), .int (iv 28), .int (iv 29)])) ::
  (ad 36, .inl (ct 0, 5, .inl (ia 36))) ::
  (ad 37, .inl (ct 0, 320, .inl (ia 37))) ::
  (ad 38, .inl (ct 0, 420, .inl (ia 38))) ::
  (ad 39, .inl (ct 0, 420, .inl (ia 39))) ::
  (ad 40, .inl (ct 0, 420, .inl (ia 40))) ::
  (ad 41, .inl (ct 2, 300, .inr (.inl (la 41)))) ::
  (ad 42, .inr (0, [.ref (ad 16), .ref (ad 6), .ref (ad 34), .ref (ad 27), .ref (ad 43), .ref (ad 44), .ref (ad 45), .ref (ad 46), .ref (ad 47), .ref (ad 48), .ref (ad 49), .int (iv 30), .int (iv 31), .int (iv 32)])) ::
  (ad 43, .inl (ct 0, 6, .inl (ia 43))) ::
  (ad 44, .inl (ct 0, 6, .inl (ia 44))) ::
  (ad 45, .inl (ct 0, 24, .inl (ia 45))) ::
  (ad 46, .inl (ct 2, 40, .inr (.inl (la 46)))) ::
  (ad 47, .inl (ct 0, 24, .inl (ia 47))) ::
  (ad 48, .inl (ct 3, 24, .inl (ia 48))) ::
  (ad 49, .inl (ct 0, 6, .inl (ia 49))) ::
  (ad 50, .inr (5, [.ref (ad 6), .ref (ad 12), .ref (ad 27), .ref (ad 51), .ref (ad 52), .ref (ad 53), .ref (ad 54), .ref (ad 55), .int (iv 33), .int (iv 34)])) ::
  (ad 51, .inl (ct 0, 8, .inl (ia 51))) ::
  (ad 52, .inl (ct 0, 6, .inl (ia 52))) ::
  (ad 53, .inl (ct 0, 6, .inl (ia 53))) ::
  (ad 54, .inl (ct 0, 6, .inl (ia 54))) ::
  (ad 55, .inl (ct 0, 6, .inl (ia 55))) ::
  R

def MW (ct : Nat → ClassId) (ad : Nat → Nat) (iv : Nat → Int32) (ia : Nat → Nat → Int32) (R : va_W) : va_W :=
  (ad 0, .inr (12, [.ref (ad 1), .int (iv 0), .int (iv 1), .int (iv 2), .int (iv 3), .int (iv 4), .int (iv 5), .int (iv 6), .int (iv 7), .int (iv 8), .ref (ad 2), .ref (ad 3), .ref (ad 4), .ref (ad 5), .ref (ad 6), .ref (ad 7), .ref (ad 8), .ref (ad 9), .ref (ad 10), .ref (ad 11), .ref (ad 12), .ref (ad 13), .ref (ad 14), .ref (ad 15), .ref (ad 16), .ref (ad 17), .ref (ad 18), .ref (ad 19), .ref (ad 20), .ref (ad 21), .ref (ad 22), .ref (ad 23), .ref (ad 24), .ref (ad 25), .ref (ad 26), .int (iv 9), .int (iv 10), .int (iv 11), .int (iv 12), .int (iv 13), .int (iv 14), .int (iv 15), .int (iv 16), .int (iv 17), .ref (ad 27), .ref (ad 28), .ref (ad 29), .ref (ad 30), .ref (ad 31), .ref (ad 32), .ref (ad 33), .ref (ad 34), .ref (ad 35), .ref (ad 36), .ref (ad 37), .ref (ad 38), .ref (ad 39), .ref (ad 40), .ref (ad 41), .ref (ad 42), .ref (ad 43), .ref (ad 44), .ref (ad 45), .ref (ad 46), .ref (ad 47), .ref (ad 48), .ref (ad 49), .ref (ad 50), .int (iv 18), .ref (ad 51), .ref (ad 52), .ref (ad 53), .int (iv 19), .int (iv 20), .int (iv 21), .int (iv 22), .int (iv 23), .int (iv 24), .int (iv 25), .ref (ad 54), .int (iv 26), .ref (ad 55), .ref (ad 56), .ref (ad 57), .ref (ad 58), .ref (ad 59), .ref (ad 60), .ref (ad 61), .ref (ad 62), .int (iv 27), .ref (ad 63), .int (iv 28), .int (iv 29), .ref (ad 64), .ref (ad 65), .ref (ad 66)])) ::
  (ad 1, .inl (ct 1, 200, .inl (ia 1))) ::
  (ad 2, .inl (ct 0, 60, .inl (ia 2))) ::
  (ad 3, .inl (ct 0, 60, .inl (ia 3))) ::
  (ad 4, .inl (ct 0, 180, .inl (ia 4))) ::
  (ad 5, .inl (ct 0, 1440, .inl (ia 5))) ::
  (ad 6, .inl (ct 0, 320, .inl (ia 6))) ::
  (ad 7, .inl (ct 1, 3840, .inl (ia 7))) ::
  (ad 8, .inl (ct 0, 6, .inl (ia 8))) ::
  (ad 9, .inl (ct 0, 6, .inl (ia 9))) ::
  (ad 10, .inl (ct 0, 24, .inl (ia 10))) ::
  (ad 11, .inl (ct 3, 24, .inl (ia 11))) ::
  (ad 12, .inl (ct 3, 24, .inl (ia 12))) ::
  (ad 13, .inl (ct 1, 960, .inl (ia 13))) ::
  (ad 14, .inl (ct 0, 80, .inl (ia 14))) ::
  (ad 15, .inl (ct 0, 20, .inl (ia 15))) ::
  (ad 16, .inl (ct 0, 20, .inl (ia 16))) ::
  (ad 17, .inl (ct 0, 20, .inl (ia 17))) ::
  (ad 18, .inl (ct 0, 20, .inl (ia 18))) ::
  (ad 19, .inl (ct 0, 320, .inl (ia 19))) ::
  (ad 20, .inl (ct 0, 320, .inl (ia 20))) ::
  (ad 21, .inl (ct 0, 320, .inl (ia 21))) ::
  (ad 22, .inl (ct 0, 320, .inl (ia 22))) ::
  (ad 23, .inl (ct 0, 320, .inl (ia 23))) ::
  (ad 24, .inl (ct 0, 320, .inl (ia 24))) ::
  (ad 25, .inl (ct 0, 3200, .inl (ia 25))) ::
  (ad 26, .inl (ct 0, 3200, .inl (ia 26))) ::
  (ad 27, .inl (ct 0, 200, .inl (ia 27))) ::
  (ad 28, .inl (ct 0, 200, .inl (ia 28))) ::
  (ad 29, .inl (ct 3, 200, .inl (ia 29))) ::
  (ad 30, .inl (ct 0, 16, .inl (ia 30))) ::
  (ad 31, .inl (ct 0, 16, .inl (ia 31))) ::
  (ad 32, .inl (ct 0, 400, .inl (ia 32))) ::
  (ad 33, .inl (ct 0, 200, .inl (ia 33))) ::
  (ad 34, .inl (ct 0, 200, .inl (ia 34))) ::
  (ad 35, .inl (ct 0, 200, .inl (ia 35))) ::
  (ad 36, .inl (ct 0, 200, .inl (ia 36))) ::
  (ad 37, .inl (ct 0, 200, .inl (ia 37))) ::
  (ad 38, .inl (ct 0, 200, .inl (ia 38))) ::
  (ad 39, .inl (ct 0, 1600, .inl (ia 39))) ::
  (ad 40, .inl (ct 0, 200, .inl (ia 40))) ::
  (ad 41, .inl (ct 0, 2400, .inl (ia 41))) ::
  (ad 42, .inl (ct 0, 2400, .inl (ia 42))) ::
  (ad 43, .inl (ct 0, 200, .inl (ia 43))) ::
  (ad 44, .inl (ct 0, 400, .inl (ia 44))) ::
  (ad 45, .inl (ct 0, 400, .inl (ia 45))) ::
  (ad 46, .inl (ct 0, 400, .inl (ia 46))) ::
  (ad 47, .inl (ct 0, 400, .inl (ia 47))) ::
  (ad 48, .inl (ct 0, 400, .inl (ia 48))) ::
  (ad 49, .inl (ct 0, 400, .inl (ia 49))) ::
  (ad 50, .inl (ct 0, 400, .inl (ia 50))) ::
  (ad 51, .inl (ct 0, 4000, .inl (ia 51))) ::
  (ad 52, .inl (ct 0, 4000, .inl (ia 52))) ::
  (ad 53, .inl (ct 0, 4000, .inl (ia 53))) ::
  (ad 54, .inl (ct 0, 60, .inl (ia 54))) ::
  (ad 55, .inl (ct 0, 6, .inl (ia 55))) ::
  (ad 56, .inl (ct 0, 6, .inl (ia 56))) ::
  (ad 57, .inl (ct 0, 24, .inl (ia 57))) ::
  (ad 58, .inl (ct 3, 1600, .inl (ia 58))) ::
  (ad 59, .inl (ct 0, 24, .inl (ia 59))) ::
  (ad 60, .inl (ct 3, 24, .inl (ia 60))) ::
  (ad 61, .inl (ct 0, 480, .inl (ia 61))) ::
  (ad 62, .inl (ct 0, 480, .inl (ia 62))) ::
  (ad 63, .inl (ct 1, 200, .inl (ia 63))) ::
  (ad 64, .inl (ct 0, 6, .inl (ia 64))) ::
  (ad 65, .inl (ct 0, 6, .inl (ia 65))) ::
  (ad 66, .inl (ct 0, 6, .inl (ia 66))) ::
  R

theorem Hp.eq {D : va_G} {A : Nat → Prop} {H0 H : Heap} {locs : List Loc} {ws ws' : va_W} (h : ws = ws') (B : Hp D A H0 ws H locs) : Hp D A H0 ws' H locs := h ▸ B
theorem sx_iv_0 (ct : Nat → ClassId) (ad : Nat → Nat) (iv : Nat → Int32) (ia : Nat → Nat → Int32) (la : Nat → Nat → Int64) (pt : Nat → Option Nat) (ra : Nat → Nat → Option Nat) (R : va_W) (z : Int32) : (XW ct ad iv ia la pt ra R).set 0 (ad 0, .inr (11, ([.ref (ad 1), .ref (ad 2), .ref (ad 3), .ref (ad 6), .ref (ad 12), .ref (ad 16), .ref (ad 27), .ref (ad 33), .ref (ad 34), .ref (ad 35), .ref (ad 42), .ref (ad 50), .int (iv 0), .int (iv 1)] : List Value).set 12 (.int z))) = XW ct ad (va_up iv 0 z) ia la pt ra R := rfl
theorem sx_iv_1 (ct : Nat → ClassId) (ad : Nat → Nat) (iv : Nat → Int32) (ia : Nat → Nat → Int32) (la : Nat → Nat → Int64) (pt : Nat → Option Nat) (ra : Nat → Nat → Option Nat) (R : va_W) (z : Int32) : (XW ct ad iv ia la pt ra R).set 0 (ad 0, .inr (11, ([.ref (ad 1), .ref (ad 2), .ref (ad 3), .ref (ad 6), .ref (ad 12), .ref (ad 16), .ref (ad 27), .ref (ad 33), .ref (ad 34), .ref (ad 35), .ref (ad 42), .ref (ad 50), .int (iv 0), .int (iv 1)] : List Value).set 13 (.int z))) = XW ct ad (va_up iv 1 z) ia la pt ra R := rfl
theorem sx_iv_2 (ct : Nat → ClassId) (ad : Nat → Nat) (iv : Nat → Int32) (ia : Nat → Nat → Int32) (la : Nat → Nat → Int64) (pt : Nat → Option Nat) (ra : Nat → Nat → Option Nat) (R : va_W) (z : Int32) : (XW ct ad iv ia la pt ra R).set 3 (ad 3, .inr (10, ([.ref (ad 4), .ref (ad 5), .int (iv 2)] : List Value).set 2 (.int z))) = XW ct ad (va_up iv 2 z) ia la pt ra R := rfl
theorem sx_iv_3 (ct : Nat → ClassId) (ad : Nat → Nat) (iv : Nat → Int32) (ia : Nat → Nat → Int32) (la : Nat → Nat → Int64) (pt : Nat → Option Nat) (ra : Nat → Nat → Option Nat) (R : va_W) (z : Int32) : (XW ct ad iv ia la pt ra R).set 6 (ad 6, .inr (9, ([.ref (ad 7), .ref (ad 8), .ref (ad 9), .ref (ad 10), .ref (ad 11), .int (iv 3)] : List Value).set 5 (.int z))) = XW ct ad (va_up iv 3 z) ia la pt ra R := rfl
theorem sx_iv_4 (ct : Nat → ClassId) (ad : Nat → Nat) (iv : Nat → Int32) (ia : Nat → Nat → Int32) (la : Nat → Nat → Int64) (pt : Nat → Option Nat) (ra : Nat → Nat → Option Nat) (R : va_W) (z : Int32) : (XW ct ad iv ia la pt ra R).set 12 (ad 12, .inr (4, ([.ref (ad 13), .ref (ad 14), .ref (ad 15), .int (iv 4), .int (iv 5), .int (iv 6), .int (iv 7), .int (iv 8)] : List Value).set 3 (.int z))) = XW ct ad (va_up iv 4 z) ia la pt ra R := rfl
theorem sx_iv_5 (ct : Nat → ClassId) (ad : Nat → Nat) (iv : Nat → Int32) (ia : Nat → Nat → Int32) (la : Nat → Nat → Int64) (pt : Nat → Option Nat) (ra : Nat → Nat → Option Nat) (R : va_W) (z : Int32) : (XW ct ad iv ia la pt ra R).set 12 (ad 12, .inr (4, ([.ref (ad 13), .ref (ad 14), .ref (ad 15), .int (iv 4), .int (iv 5), .int (iv 6), .int (iv 7), .int (iv 8)] : List Value).set 4 (.int z))) = XW ct ad (va_up iv 5 z) ia la pt ra R := rfl
theorem sx_iv_6 (ct : Nat → ClassId) (ad : Nat → Nat) (iv : Nat → Int32) (ia : Nat → Nat → Int32) (la : Nat → Nat → Int64) (pt : Nat → Option Nat) (ra : Nat → Nat → Option Nat) (R : va_W) (z : Int32) : (XW ct ad iv ia la pt ra R).set 12 (ad 12, .inr (4, ([.ref (ad 13), .ref (ad 14), .ref (ad 15), .int (iv 4), .int (iv 5), .int (iv 6), .int (iv 7), .int (iv 8)] : List Value).set 5 (.int z))) = XW ct ad (va_up iv 6 z) ia la pt ra R := rfl
theorem sx_iv_7 (ct : Nat → ClassId) (ad : Nat → Nat) (iv : Nat → Int32) (ia : Nat → Nat → Int32) (la : Nat → Nat → Int64) (pt : Nat → Option Nat) (ra : Nat → Nat → Option Nat) (R : va_W) (z : Int32) : (XW ct ad iv ia la pt ra R).set 12 (ad 12, .inr (4, ([.ref (ad 13), .ref (ad 14), .ref (ad 15), .int (iv 4), .int (iv 5), .int (iv 6), .int (iv 7), .int (iv 8)] : List Value).set 6 (.int z))) = XW ct ad (va_up iv 7 z) ia la pt ra R := rfl
theorem sx_iv_8 (ct : Nat → ClassId) (ad : Nat → Nat) (iv : Nat → Int32) (ia : Nat → Nat → Int32) (la : Nat → Nat → Int64) (pt : Nat → Option Nat) (ra : Nat → Nat → Option Nat) (R : va_W) (z : Int32) : (XW ct ad iv ia la pt ra R).set 12 (ad 12, .inr (4, ([.ref (ad 13), .ref (ad 14), .ref (ad 15), .int (iv 4), .int (iv 5), .int (iv 6), .int (iv 7), .int (iv 8)] : List Value).set 7 (.int z))) = XW ct ad (va_up iv 8 z) ia la pt ra R := rfl
theorem sx_iv_9 (ct : Nat → ClassId) (ad : Nat → Nat) (iv : Nat → Int32) (ia : Nat → Nat → Int32) (la : Nat → Nat → Int64) (pt : Nat → Option Nat) (ra : Nat → Nat → Option Nat) (R : va_W) (z : Int32) : (XW ct ad iv ia la pt ra R).set 16 (ad 16, .inr (2, ([.ref (ad 17), .ref (ad 18), .ref (ad 19), .ref (ad 20), .ref (ad 21), .ref (ad 22), .ref (ad 23), .ref (ad 24), .ref (ad 25), .ref (ad 26), .int (iv 9)] : List Value).set 10 (.int z))) = XW ct ad (va_up iv 9 z) ia la pt ra R := rfl
theorem sx_iv_10 (ct : Nat → ClassId) (ad : Nat → Nat) (iv : Nat → Int32) (ia : Nat → Nat → Int32) (la : Nat → Nat → Int64) (pt : Nat → Option Nat) (ra : Nat → Nat → Option Nat) (R : va_W) (z : Int32) : (XW ct ad iv ia la pt ra R).set 27 (ad 27, .inr (8, ([.ref (ad 28), .ref (ad 29), .ref (ad 30), .ref (ad 31), .ref (ad 32), .int (iv 10), .int (iv 11)] : List Value).set 5 (.int z))) = XW ct ad (va_up iv 10 z) ia la pt ra R := rfl
theorem sx_iv_11 (ct : Nat → ClassId) (ad : Nat → Nat) (iv : Nat → Int32) (ia : Nat → Nat → Int32) (la : Nat → Nat → Int64) (pt : Nat → Option Nat) (ra : Nat → Nat → Option Nat) (R : va_W) (z : Int32) : (XW ct ad iv ia la pt ra R).set 27 (ad 27, .inr (8, ([.ref (ad 28), .ref (ad 29), .ref (ad 30), .ref (ad 31), .ref (ad 32), .int (iv 10), .int (iv 11)] : List Value).set 6 (.int z))) = XW ct ad (va_up iv 11 z) ia la pt ra R := rfl
theorem sx_iv_12 (ct : Nat → ClassId) (ad : Nat → Nat) (iv : Nat → Int32) (ia : Nat → Nat → Int32) (la : Nat → Nat → Int64) (pt : Nat → Option Nat) (ra : Nat → Nat → Option Nat) (R : va_W) (z : Int32) : (XW ct ad iv ia la pt ra R).set 33 (ad 33, .inr (3, ([.ref (ad 16), va_rf (pt 0), .int (iv 12), .int (iv 13), .int (iv 14), .int (iv 15), .int (iv 16)] : List Value).set 2 (.int z))) = XW ct ad (va_up iv 12 z) ia la pt ra R := rfl
theorem sx_iv_13 (ct : Nat → ClassId) (ad : Nat → Nat) (iv : Nat → Int32) (ia : Nat → Nat → Int32) (la : Nat → Nat → Int64) (pt : Nat → Option Nat) (ra : Nat → Nat → Option Nat) (R : va_W) (z : Int32) : (XW ct ad iv ia la pt ra R).set 33 (ad 33, .inr (3, ([.ref (ad 16), va_rf (pt 0), .int (iv 12), .int (iv 13), .int (iv 14), .int (iv 15), .int (iv 16)] : List Value).set 3 (.int z))) = XW ct ad (va_up iv 13 z) ia la pt ra R := rfl
theorem sx_iv_14 (ct : Nat → ClassId) (ad : Nat → Nat) (iv : Nat → Int32) (ia : Nat → Nat → Int32) (la : Nat → Nat → Int64) (pt : Nat → Option Nat) (ra : Nat → Nat → Option Nat) (R : va_W) (z : Int32) : (XW ct ad iv ia la pt ra R).set 33 (ad 33, .inr (3, ([.ref (ad 16), va_rf (pt 0), .int (iv 12), .int (iv 13), .int (iv 14), .int (iv 15), .int (iv 16)] : List Value).set 4 (.int z))) = XW ct ad (va_up iv 14 z) ia la pt ra R := rfl
theorem sx_iv_15 (ct : Nat → ClassId) (ad : Nat → Nat) (iv : Nat → Int32) (ia : Nat → Nat → Int32) (la : Nat → Nat → Int64) (pt : Nat → Option Nat) (ra : Nat → Nat → Option Nat) (R : va_W) (z : Int32) : (XW ct ad iv ia la pt ra R).set 33 (ad 33, .inr (3, ([.ref (ad 16), va_rf (pt 0), .int (iv 12), .int (iv 13), .int (iv 14), .int (iv 15), .int (iv 16)] : List Value).set 5 (.int z))) = XW ct ad (va_up iv 15 z) ia la pt ra R := rfl
theorem sx_iv_16 (ct : Nat → ClassId) (ad : Nat → Nat) (iv : Nat → Int32) (ia : Nat → Nat → Int32) (la : Nat → Nat → Int64) (pt : Nat → Option Nat) (ra : Nat → Nat → Option Nat) (R : va_W) (z : Int32) : (XW ct ad iv ia la pt ra R).set 33 (ad 33, .inr (3, ([.ref (ad 16), va_rf (pt 0), .int (iv 12), .int (iv 13), .int (iv 14), .int (iv 15), .int (iv 16)] : List Value).set 6 (.int z))) = XW ct ad (va_up iv 16 z) ia la pt ra R := rfl
theorem sx_iv_17 (ct : Nat → ClassId) (ad : Nat → Nat) (iv : Nat → Int32) (ia : Nat → Nat → Int32) (la : Nat → Nat → Int64) (pt : Nat → Option Nat) (ra : Nat → Nat → Option Nat) (R : va_W) (z : Int32) : (XW ct ad iv ia la pt ra R).set 34 (ad 34, .inr (6, ([.ref (ad 16), .ref (ad 6), .ref (ad 12), .int (iv 17), .int (iv 18), .int (iv 19), .int (iv 20), .int (iv 21), .int (iv 22), .int (iv 23), .int (iv 24), va_rf (pt 1), .int (iv 25), .int (iv 26)] : List Value).set 3 (.int z))) = XW ct ad (va_up iv 17 z) ia la pt ra R := rfl
theorem sx_iv_18 (ct : Nat → ClassId) (ad : Nat → Nat) (iv : Nat → Int32) (ia : Nat → Nat → Int32) (la : Nat → Nat → Int64) (pt : Nat → Option Nat) (ra : Nat → Nat → Option Nat) (R : va_W) (z : Int32) : (XW ct ad iv ia la pt ra R).set 34 (ad 34, .inr (6, ([.ref (ad 16), .ref (ad 6), .ref (ad 12), .int (iv 17), .int (iv 18), .int (iv 19), .int (iv 20), .int (iv 21), .int (iv 22), .int (iv 23), .int (iv 24), va_rf (pt 1), .int (iv 25), .int (iv 26)] : List Value).set 4 (.int z))) = XW ct ad (va_up iv 18 z) ia la pt ra R := rfl
theorem sx_iv_19 (ct : Nat → ClassId) (ad : Nat → Nat) (iv : Nat → Int32) (ia : Nat → Nat → Int32) (la : Nat → Nat → Int64) (pt : Nat → Option Nat) (ra : Nat → Nat → Option Nat) (R : va_W) (z : Int32) : (XW ct ad iv ia la pt ra R).set 34 (ad 34, .inr (6, ([.ref (ad 16), .ref (ad 6), .ref (ad 12), .int (iv 17), .int (iv 18), .int (iv 19), .int (iv 20), .int (iv 21), .int (iv 22), .int (iv 23), .int (iv 24), va_rf (pt 1), .int (iv 25), .int (iv 26)] : List Value).set 5 (.int z))) = XW ct ad (va_up iv 19 z) ia la pt ra R := rfl
theorem sx_iv_20 (ct : Nat → ClassId) (ad : Nat → Nat) (iv : Nat → Int32) (ia : Nat → Nat → Int32) (la : Nat → Nat → Int64) (pt : Nat → Option Nat) (ra : Nat → Nat → Option Nat) (R : va_W) (z : Int32) : (XW ct ad iv ia la pt ra R).set 34 (ad 34, .inr (6, ([.ref (ad 16), .ref (ad 6), .ref (ad 12), .int (iv 17), .int (iv 18), .int (iv 19), .int (iv 20), .int (iv 21), .int (iv 22), .int (iv 23), .int (iv 24), va_rf (pt 1), .int (iv 25), .int (iv 26)] : List Value).set 6 (.int z))) = XW ct ad (va_up iv 20 z) ia la pt ra R := rfl
theorem sx_iv_21 (ct : Nat → ClassId) (ad : Nat → Nat) (iv : Nat → Int32) (ia : Nat → Nat → Int32) (la : Nat → Nat → Int64) (pt : Nat → Option Nat) (ra : Nat → Nat → Option Nat) (R : va_W) (z : Int32) : (XW ct ad iv ia la pt ra R).set 34 (ad 34, .inr (6, ([.ref (ad 16), .ref (ad 6), .ref (ad 12), .int (iv 17), .int (iv 18), .int (iv 19), .int (iv 20), .int (iv 21), .int (iv 22), .int (iv 23), .int (iv 24), va_rf (pt 1), .int (iv 25), .int (iv 26)] : List Value).set 7 (.int z))) = XW ct ad (va_up iv 21 z) ia la pt ra R := rfl
theorem sx_iv_22 (ct : Nat → ClassId) (ad : Nat → Nat) (iv : Nat → Int32) (ia : Nat → Nat → Int32) (la : Nat → Nat → Int64) (pt : Nat → Option Nat) (ra : Nat → Nat → Option Nat) (R : va_W) (z : Int32) : (XW ct ad iv ia la pt ra R).set 34 (ad 34, .inr (6, ([.ref (ad 16), .ref (ad 6), .ref (ad 12), .int (iv 17), .int (iv 18), .int (iv 19), .int (iv 20), .int (iv 21), .int (iv 22), .int (iv 23), .int (iv 24), va_rf (pt 1), .int (iv 25), .int (iv 26)] : List Value).set 8 (.int z))) = XW ct ad (va_up iv 22 z) ia la pt ra R := rfl
theorem sx_iv_23 (ct : Nat → ClassId) (ad : Nat → Nat) (iv : Nat → Int32) (ia : Nat → Nat → Int32) (la : Nat → Nat → Int64) (pt : Nat → Option Nat) (ra : Nat → Nat → Option Nat) (R : va_W) (z : Int32) : (XW ct ad iv ia la pt ra R).set 34 (ad 34, .inr (6, ([.ref (ad 16), .ref (ad 6), .ref (ad 12), .int (iv 17), .int (iv 18), .int (iv 19), .int (iv 20), .int (iv 21), .int (iv 22), .int (iv 23), .int (iv 24), va_rf (pt 1), .int (iv 25), .int (iv 26)] : List Value).set 9 (.int z))) = XW ct ad (va_up iv 23 z) ia la pt ra R := rfl
theorem sx_iv_24 (ct : Nat → ClassId) (ad : Nat → Nat) (iv : Nat → Int32) (ia : Nat → Nat → Int32) (la : Nat → Nat → Int64) (pt : Nat → Option Nat) (ra : Nat → Nat → Option Nat) (R : va_W) (z : Int32) : (XW ct ad iv ia la pt ra R).set 34 (ad 34, .inr (6, ([.ref (ad 16), .ref (ad 6), .ref (ad 12), .int (iv 17), .int (iv 18), .int (iv 19), .int (iv 20), .int (iv 21), .int (iv 22), .int (iv 23), .int (iv 24), va_rf (pt 1), .int (iv 25), .int (iv 26)] : List Value).set 10 (.int z))) = XW ct ad (va_up iv 24 z) ia la pt ra R := rfl
theorem sx_iv_25 (ct : Nat → ClassId) (ad : Nat → Nat) (iv : Nat → Int32) (ia : Nat → Nat → Int32) (la : Nat → Nat → Int64) (pt : Nat → Option Nat) (ra : Nat → Nat → Option Nat) (R : va_W) (z : Int32) : (XW ct ad iv ia la pt ra R).set 34 (ad 34, .inr (6, ([.ref (ad 16), .ref (ad 6), .ref (ad 12), .int (iv 17), .int (iv 18), .int (iv 19), .int (iv 20), .int (iv 21), .int (iv 22), .int (iv 23), .int (iv 24), va_rf (pt 1), .int (iv 25), .int (iv 26)] : List Value).set 12 (.int z))) = XW ct ad (va_up iv 25 z) ia la pt ra R := rfl
theorem sx_iv_26 (ct : Nat → ClassId) (ad : Nat → Nat) (iv : Nat → Int32) (ia : Nat → Nat → Int32) (la : Nat → Nat → Int64) (pt : Nat → Option Nat) (ra : Nat → Nat → Option Nat) (R : va_W) (z : Int32) : (XW ct ad iv ia la pt ra R).set 34 (ad 34, .inr (6, ([.ref (ad 16), .ref (ad 6), .ref (ad 12), .int (iv 17), .int (iv 18), .int (iv 19), .int (iv 20), .int (iv 21), .int (iv 22), .int (iv 23), .int (iv 24), va_rf (pt 1), .int (iv 25), .int (iv 26)] : List Value).set 13 (.int z))) = XW ct ad (va_up iv 26 z) ia la pt ra R := rfl
theorem sx_iv_27 (ct : Nat → ClassId) (ad : Nat → Nat) (iv : Nat → Int32) (ia : Nat → Nat → Int32) (la : Nat → Nat → Int64) (pt : Nat → Option Nat) (ra : Nat → Nat → Option Nat) (R : va_W) (z : Int32) : (XW ct ad iv ia la pt ra R).set 35 (ad 35, .inr (1, ([.ref (ad 16), .ref (ad 6), .ref (ad 34), .ref (ad 27), .ref (ad 36), .ref (ad 37), .ref (ad 38), .ref (ad 39), .ref (ad 40), .ref (ad 41), .int (iv 27), .int (iv 28), .int (iv 29)] : List Value).set 10 (.int z))) = XW ct ad (va_up iv 27 z) ia la pt ra R := rfl
theorem sx_iv_28 (ct : Nat → ClassId) (ad : Nat → Nat) (iv : Nat → Int32) (ia : Nat → Nat → Int32) (la : Nat → Nat → Int64) (pt : Nat → Option Nat) (ra : Nat → Nat → Option Nat) (R : va_W) (z : Int32) : (XW ct ad iv ia la pt ra R).set 35 (ad 35, .inr (1, ([.ref (ad 16), .ref (ad 6), .ref (ad 34), .ref (ad 27), .ref (ad 36), .ref (ad 37), .ref (ad 38), .ref (ad 39), .ref (ad 40), .ref (ad 41), .int (iv 27), .int (iv 28), .int (iv 29)] : List Value).set 11 (.int z))) = XW ct ad (va_up iv 28 z) ia la pt ra R := rfl
theorem sx_iv_29 (ct : Nat → ClassId) (ad : Nat → Nat) (iv : Nat → Int32) (ia : Nat → Nat → Int32) (la : Nat → Nat → Int64) (pt : Nat → Option Nat) (ra : Nat → Nat → Option Nat) (R : va_W) (z : Int32) : (XW ct ad iv ia la pt ra R).set 35 (ad 35, .inr (1, ([.ref (ad 16), .ref (ad 6), .ref (ad 34), .ref (ad 27), .ref (ad 36), .ref (ad 37), .ref (ad 38), .ref (ad 39), .ref (ad 40), .ref (ad 41), .int (iv 27), .int (iv 28), .int (iv 29)] : List Value).set 12 (.int z))) = XW ct ad (va_up iv 29 z) ia la pt ra R := rfl
theorem sx_iv_30 (ct : Nat → ClassId) (ad : Nat → Nat) (iv : Nat → Int32) (ia : Nat → Nat → Int32) (la : Nat → Nat → Int64) (pt : Nat → Option Nat) (ra : Nat → Nat → Option Nat) (R : va_W) (z : Int32) : (XW ct ad iv ia la pt ra R).set 42 (ad 42, .inr (0, ([.ref (ad 16), .ref (ad 6), .ref (ad 34), .ref (ad 27), .ref (ad 43), .ref (ad 44), .ref (ad 45), .ref (ad 46), .ref (ad 47), .ref (ad 48), .ref (ad 49), .int (iv 30), .int (iv 31), .int (iv 32)] : List Value).set 11 (.int z))) = XW ct ad (va_up iv 30 z) ia la pt ra R := rfl
theorem sx_iv_31 (ct : Nat → ClassId) (ad : Nat → Nat) (iv : Nat → Int32) (ia : Nat → Nat → Int32) (la : Nat → Nat → Int64) (pt : Nat → Option Nat) (ra : Nat → Nat → Option Nat) (R : va_W) (z : Int32) : (XW ct ad iv ia la pt ra R).set 42 (ad 42, .inr (0, ([.ref (ad 16), .ref (ad 6), .ref (ad 34), .ref (ad 27), .ref (ad 43), .ref (ad 44), .ref (ad 45), .ref (ad 46), .ref (ad 47), .ref (ad 48), .ref (ad 49), .int (iv 30), .int (iv 31), .int (iv 32)] : List Value).set 12 (.int z))) = XW ct ad (va_up iv 31 z) ia la pt ra R := rfl
theorem sx_iv_32 (ct : Nat → ClassId) (ad : Nat → Nat) (iv : Nat → Int32) (ia : Nat → Nat → Int32) (la : Nat → Nat → Int64) (pt : Nat → Option Nat) (ra : Nat → Nat → Option Nat) (R : va_W) (z : Int32) : (XW ct ad iv ia la pt ra R).set 42 (ad 42, .inr (0, ([.ref (ad 16), .ref (ad 6), .ref (ad 34), .ref (ad 27), .ref (ad 43), .ref (ad 44), .ref (ad 45), .ref (ad 46), .ref (ad 47), .ref (ad 48), .ref (ad 49), .int (iv 30), .int (iv 31), .int (iv 32)] : List Value).set 13 (.int z))) = XW ct ad (va_up iv 32 z) ia la pt ra R := rfl
theorem sx_iv_33 (ct : Nat → ClassId) (ad : Nat → Nat) (iv : Nat → Int32) (ia : Nat → Nat → Int32) (la : Nat → Nat → Int64) (pt : Nat → Option Nat) (ra : Nat → Nat → Option Nat) (R : va_W) (z : Int32) : (XW ct ad iv ia la pt ra R).set 50 (ad 50, .inr (5, ([.ref (ad 6), .ref (ad 12), .ref (ad 27), .ref (ad 51), .ref (ad 52), .ref (ad 53), .ref (ad 54), .ref (ad 55), .int (iv 33), .int (iv 34)] : List Value).set 8 (.int z))) = XW ct ad (va_up iv 33 z) ia la pt ra R := rfl
theorem sx_iv_34 (ct : Nat → ClassId) (ad : Nat → Nat) (iv : Nat → Int32) (ia : Nat → Nat → Int32) (la : Nat → Nat → Int64) (pt : Nat → Option Nat) (ra : Nat → Nat → Option Nat) (R : va_W) (z : Int32) : (XW ct ad iv ia la pt ra R).set 50 (ad 50, .inr (5, ([.ref (ad 6), .ref (ad 12), .ref (ad 27), .ref (ad 51), .ref (ad 52), .ref (ad 53), .ref (ad 54), .ref (ad 55), .int (iv 33), .int (iv 34)] : List Value).set 9 (.int z))) = XW ct ad (va_up iv 34 z) ia la pt ra R := rfl
theorem sx_ia_1 (ct : Nat → ClassId) (ad : Nat → Nat) (iv : Nat → Int32) (ia : Nat → Nat → Int32) (la : Nat → Nat → Int64) (pt : Nat → Option Nat) (ra : Nat → Nat → Option Nat) (R : va_W) (g : Nat → Int32) : (XW ct ad iv ia la pt ra R).set 1 (ad 1, .inl (ct 0, 200, .inl g)) = XW ct ad iv (va_up ia 1 g) la pt ra R := rfl
theorem sx_ia_2 (ct : Nat → ClassId) (ad : Nat → Nat) (iv : Nat → Int32) (ia : Nat → Nat → Int32) (la : Nat → Nat → Int64) (pt : Nat → Option Nat) (ra : Nat → Nat → Option Nat) (R : va_W) (g : Nat → Int32) : (XW ct ad iv ia la pt ra R).set 2 (ad 2, .inl (ct 0, 13, .inl g)) = XW ct ad iv (va_up ia 2 g) la pt ra R := rfl
theorem sx_ia_4 (ct : Nat → ClassId) (ad : Nat → Nat) (iv : Nat → Int32) (ia : Nat → Nat → Int32) (la : Nat → Nat → Int64) (pt : Nat → Option Nat) (ra : Nat → Nat → Option Nat) (R : va_W) (g : Nat → Int32) : (XW ct ad iv ia la pt ra R).set 4 (ad 4, .inl (ct 1, 4800, .inl g)) = XW ct ad iv (va_up ia 4 g) la pt ra R := rfl
theorem sx_ia_5 (ct : Nat → ClassId) (ad : Nat → Nat) (iv : Nat → Int32) (ia : Nat → Nat → Int32) (la : Nat → Nat → Int64) (pt : Nat → Option Nat) (ra : Nat → Nat → Option Nat) (R : va_W) (g : Nat → Int32) : (XW ct ad iv ia la pt ra R).set 5 (ad 5, .inl (ct 1, 400, .inl g)) = XW ct ad iv (va_up ia 5 g) la pt ra R := rfl
theorem sx_ia_7 (ct : Nat → ClassId) (ad : Nat → Nat) (iv : Nat → Int32) (ia : Nat → Nat → Int32) (la : Nat → Nat → Int64) (pt : Nat → Option Nat) (ra : Nat → Nat → Option Nat) (R : va_W) (g : Nat → Int32) : (XW ct ad iv ia la pt ra R).set 7 (ad 7, .inl (ct 0, 60, .inl g)) = XW ct ad iv (va_up ia 7 g) la pt ra R := rfl
theorem sx_ia_8 (ct : Nat → ClassId) (ad : Nat → Nat) (iv : Nat → Int32) (ia : Nat → Nat → Int32) (la : Nat → Nat → Int64) (pt : Nat → Option Nat) (ra : Nat → Nat → Option Nat) (R : va_W) (g : Nat → Int32) : (XW ct ad iv ia la pt ra R).set 8 (ad 8, .inl (ct 0, 60, .inl g)) = XW ct ad iv (va_up ia 8 g) la pt ra R := rfl
theorem sx_ia_10 (ct : Nat → ClassId) (ad : Nat → Nat) (iv : Nat → Int32) (ia : Nat → Nat → Int32) (la : Nat → Nat → Int64) (pt : Nat → Option Nat) (ra : Nat → Nat → Option Nat) (R : va_W) (g : Nat → Int32) : (XW ct ad iv ia la pt ra R).set 10 (ad 10, .inl (ct 0, 480, .inl g)) = XW ct ad iv (va_up ia 10 g) la pt ra R := rfl
theorem sx_ia_11 (ct : Nat → ClassId) (ad : Nat → Nat) (iv : Nat → Int32) (ia : Nat → Nat → Int32) (la : Nat → Nat → Int64) (pt : Nat → Option Nat) (ra : Nat → Nat → Option Nat) (R : va_W) (g : Nat → Int32) : (XW ct ad iv ia la pt ra R).set 11 (ad 11, .inl (ct 0, 480, .inl g)) = XW ct ad iv (va_up ia 11 g) la pt ra R := rfl
theorem sx_ia_13 (ct : Nat → ClassId) (ad : Nat → Nat) (iv : Nat → Int32) (ia : Nat → Nat → Int32) (la : Nat → Nat → Int64) (pt : Nat → Option Nat) (ra : Nat → Nat → Option Nat) (R : va_W) (g : Nat → Int32) : (XW ct ad iv ia la pt ra R).set 13 (ad 13, .inl (ct 0, 6, .inl g)) = XW ct ad iv (va_up ia 13 g) la pt ra R := rfl
theorem sx_ia_14 (ct : Nat → ClassId) (ad : Nat → Nat) (iv : Nat → Int32) (ia : Nat → Nat → Int32) (la : Nat → Nat → Int64) (pt : Nat → Option Nat) (ra : Nat → Nat → Option Nat) (R : va_W) (g : Nat → Int32) : (XW ct ad iv ia la pt ra R).set 14 (ad 14, .inl (ct 0, 6, .inl g)) = XW ct ad iv (va_up ia 14 g) la pt ra R := rfl
theorem sx_ia_15 (ct : Nat → ClassId) (ad : Nat → Nat) (iv : Nat → Int32) (ia : Nat → Nat → Int32) (la : Nat → Nat → Int64) (pt : Nat → Option Nat) (ra : Nat → Nat → Option Nat) (R : va_W) (g : Nat → Int32) : (XW ct ad iv ia la pt ra R).set 15 (ad 15, .inl (ct 0, 6, .inl g)) = XW ct ad iv (va_up ia 15 g) la pt ra R := rfl
theorem sx_ia_18 (ct : Nat → ClassId) (ad : Nat → Nat) (iv : Nat → Int32) (ia : Nat → Nat → Int32) (la : Nat → Nat → Int64) (pt : Nat → Option Nat) (ra : Nat → Nat → Option Nat) (R : va_W) (g : Nat → Int32) : (XW ct ad iv ia la pt ra R).set 18 (ad 18, .inl (ct 0, 20, .inl g)) = XW ct ad iv (va_up ia 18 g) la pt ra R := rfl
theorem sx_ia_19 (ct : Nat → ClassId) (ad : Nat → Nat) (iv : Nat → Int32) (ia : Nat → Nat → Int32) (la : Nat → Nat → Int64) (pt : Nat → Option Nat) (ra : Nat → Nat → Option Nat) (R : va_W) (g : Nat → Int32) : (XW ct ad iv ia la pt ra R).set 19 (ad 19, .inl (ct 0, 20, .inl g)) = XW ct ad iv (va_up ia 19 g) la pt ra R := rfl
theorem sx_ia_20 (ct : Nat → ClassId) (ad : Nat → Nat) (iv : Nat → Int32) (ia : Nat → Nat → Int32) (la : Nat → Nat → Int64) (pt : Nat → Option Nat) (ra : Nat → Nat → Option Nat) (R : va_W) (g : Nat → Int32) : (XW ct ad iv ia la pt ra R).set 20 (ad 20, .inl (ct 0, 20, .inl g)) = XW ct ad iv (va_up ia 20 g) la pt ra R := rfl
theorem sx_ia_21 (ct : Nat → ClassId) (ad : Nat → Nat) (iv : Nat → Int32) (ia : Nat → Nat → Int32) (la : Nat → Nat → Int64) (pt : Nat → Option Nat) (ra : Nat → Nat → Option Nat) (R : va_W) (g : Nat → Int32) : (XW ct ad iv ia la pt ra R).set 21 (ad 21, .inl (ct 0, 20, .inl g)) = XW ct ad iv (va_up ia 21 g) la pt ra R := rfl
theorem sx_ia_22 (ct : Nat → ClassId) (ad : Nat → Nat) (iv : Nat → Int32) (ia : Nat → Nat → Int32) (la : Nat → Nat → Int64) (pt : Nat → Option Nat) (ra : Nat → Nat → Option Nat) (R : va_W) (g : Nat → Int32) : (XW ct ad iv ia la pt ra R).set 22 (ad 22, .inl (ct 0, 320, .inl g)) = XW ct ad iv (va_up ia 22 g) la pt ra R := rfl
theorem sx_ia_23 (ct : Nat → ClassId) (ad : Nat → Nat) (iv : Nat → Int32) (ia : Nat → Nat → Int32) (la : Nat → Nat → Int64) (pt : Nat → Option Nat) (ra : Nat → Nat → Option Nat) (R : va_W) (g : Nat → Int32) : (XW ct ad iv ia la pt ra R).set 23 (ad 23, .inl (ct 0, 320, .inl g)) = XW ct ad iv (va_up ia 23 g) la pt ra R := rfl
theorem sx_ia_24 (ct : Nat → ClassId) (ad : Nat → Nat) (iv : Nat → Int32) (ia : Nat → Nat → Int32) (la : Nat → Nat → Int64) (pt : Nat → Option Nat) (ra : Nat → Nat → Option Nat) (R : va_W) (g : Nat → Int32) : (XW ct ad iv ia la pt ra R).set 24 (ad 24, .inl (ct 0, 320, .inl g)) = XW ct ad iv (va_up ia 24 g) la pt ra R := rfl
theorem sx_ia_25 (ct : Nat → ClassId) (ad : Nat → Nat) (iv : Nat → Int32) (ia : Nat → Nat → Int32) (la : Nat → Nat → Int64) (pt : Nat → Option Nat) (ra : Nat → Nat → Option Nat) (R : va_W) (g : Nat → Int32) : (XW ct ad iv ia la pt ra R).set 25 (ad 25, .inl (ct 0, 320, .inl g)) = XW ct ad iv (va_up ia 25 g) la pt ra R := rfl
theorem sx_ia_26 (ct : Nat → ClassId) (ad : Nat → Nat) (iv : Nat → Int32) (ia : Nat → Nat → Int32) (la : Nat → Nat → Int64) (pt : Nat → Option Nat) (ra : Nat → Nat → Option Nat) (R : va_W) (g : Nat → Int32) : (XW ct ad iv ia la pt ra R).set 26 (ad 26, .inl (ct 0, 320, .inl g)) = XW ct ad iv (va_up ia 26 g) la pt ra R := rfl
theorem sx_ia_29 (ct : Nat → ClassId) (ad : Nat → Nat) (iv : Nat → Int32) (ia : Nat → Nat → Int32) (la : Nat → Nat → Int64) (pt : Nat → Option Nat) (ra : Nat → Nat → Option Nat) (R : va_W) (g : Nat → Int32) : (XW ct ad iv ia la pt ra R).set 29 (ad 29, .inl (ct 0, 60, .inl g)) = XW ct ad iv (va_up ia 29 g) la pt ra R := rfl
theorem sx_ia_30 (ct : Nat → ClassId) (ad : Nat → Nat) (iv : Nat → Int32) (ia : Nat → Nat → Int32) (la : Nat → Nat → Int64) (pt : Nat → Option Nat) (ra : Nat → Nat → Option Nat) (R : va_W) (g : Nat → Int32) : (XW ct ad iv ia la pt ra R).set 30 (ad 30, .inl (ct 0, 1024, .inl g)) = XW ct ad iv (va_up ia 30 g) la pt ra R := rfl
theorem sx_ia_31 (ct : Nat → ClassId) (ad : Nat → Nat) (iv : Nat → Int32) (ia : Nat → Nat → Int32) (la : Nat → Nat → Int64) (pt : Nat → Option Nat) (ra : Nat → Nat → Option Nat) (R : va_W) (g : Nat → Int32) : (XW ct ad iv ia la pt ra R).set 31 (ad 31, .inl (ct 0, 1024, .inl g)) = XW ct ad iv (va_up ia 31 g) la pt ra R := rfl
theorem sx_ia_32 (ct : Nat → ClassId) (ad : Nat → Nat) (iv : Nat → Int32) (ia : Nat → Nat → Int32) (la : Nat → Nat → Int64) (pt : Nat → Option Nat) (ra : Nat → Nat → Option Nat) (R : va_W) (g : Nat → Int32) : (XW ct ad iv ia la pt ra R).set 32 (ad 32, .inl (ct 0, 1024, .inl g)) = XW ct ad iv (va_up ia 32 g) la pt ra R := rfl
theorem sx_ia_36 (ct : Nat → ClassId) (ad : Nat → Nat) (iv : Nat → Int32) (ia : Nat → Nat → Int32) (la : Nat → Nat → Int64) (pt : Nat → Option Nat) (ra : Nat → Nat → Option Nat) (R : va_W) (g : Nat → Int32) : (XW ct ad iv ia la pt ra R).set 36 (ad 36, .inl (ct 0, 5, .inl g)) = XW ct ad iv (va_up ia 36 g) la pt ra R := rfl
theorem sx_ia_37 (ct : Nat → ClassId) (ad : Nat → Nat) (iv : Nat → Int32) (ia : Nat → Nat → Int32) (la : Nat → Nat → Int64) (pt : Nat → Option Nat) (ra : Nat → Nat → Option Nat) (R : va_W) (g : Nat → Int32) : (XW ct ad iv ia la pt ra R).set 37 (ad 37, .inl (ct 0, 320, .inl g)) = XW ct ad iv (va_up ia 37 g) la pt ra R := rfl
theorem sx_ia_38 (ct : Nat → ClassId) (ad : Nat → Nat) (iv : Nat → Int32) (ia : Nat → Nat → Int32) (la : Nat → Nat → Int64) (pt : Nat → Option Nat) (ra : Nat → Nat → Option Nat) (R : va_W) (g : Nat → Int32) : (XW ct ad iv ia la pt ra R).set 38 (ad 38, .inl (ct 0, 420, .inl g)) = XW ct ad iv (va_up ia 38 g) la pt ra R := rfl
theorem sx_ia_39 (ct : Nat → ClassId) (ad : Nat → Nat) (iv : Nat → Int32) (ia : Nat → Nat → Int32) (la : Nat → Nat → Int64) (pt : Nat → Option Nat) (ra : Nat → Nat → Option Nat) (R : va_W) (g : Nat → Int32) : (XW ct ad iv ia la pt ra R).set 39 (ad 39, .inl (ct 0, 420, .inl g)) = XW ct ad iv (va_up ia 39 g) la pt ra R := rfl
theorem sx_ia_40 (ct : Nat → ClassId) (ad : Nat → Nat) (iv : Nat → Int32) (ia : Nat → Nat → Int32) (la : Nat → Nat → Int64) (pt : Nat → Option Nat) (ra : Nat → Nat → Option Nat) (R : va_W) (g : Nat → Int32) : (XW ct ad iv ia la pt ra R).set 40 (ad 40, .inl (ct 0, 420, .inl g)) = XW ct ad iv (va_up ia 40 g) la pt ra R := rfl
theorem sx_la_41 (ct : Nat → ClassId) (ad : Nat → Nat) (iv : Nat → Int32) (ia : Nat → Nat → Int32) (la : Nat → Nat → Int64) (pt : Nat → Option Nat) (ra : Nat → Nat → Option Nat) (R : va_W) (g : Nat → Int64) : (XW ct ad iv ia la pt ra R).set 41 (ad 41, .inl (ct 2, 300, .inr (.inl g))) = XW ct ad iv ia (va_up la 41 g) pt ra R := rfl
theorem sx_ia_43 (ct : Nat → ClassId) (ad : Nat → Nat) (iv : Nat → Int32) (ia : Nat → Nat → Int32) (la : Nat → Nat → Int64) (pt : Nat → Option Nat) (ra : Nat → Nat → Option Nat) (R : va_W) (g : Nat → Int32) : (XW ct ad iv ia la pt ra R).set 43 (ad 43, .inl (ct 0, 6, .inl g)) = XW ct ad iv (va_up ia 43 g) la pt ra R := rfl
theorem sx_ia_44 (ct : Nat → ClassId) (ad : Nat → Nat) (iv : Nat → Int32) (ia : Nat → Nat → Int32) (la : Nat → Nat → Int64) (pt : Nat → Option Nat) (ra : Nat → Nat → Option Nat) (R : va_W) (g : Nat → Int32) : (XW ct ad iv ia la pt ra R).set 44 (ad 44, .inl (ct 0, 6, .inl g)) = XW ct ad iv (va_up ia 44 g) la pt ra R := rfl
theorem sx_ia_45 (ct : Nat → ClassId) (ad : Nat → Nat) (iv : Nat → Int32) (ia : Nat → Nat → Int32) (la : Nat → Nat → Int64) (pt : Nat → Option Nat) (ra : Nat → Nat → Option Nat) (R : va_W) (g : Nat → Int32) : (XW ct ad iv ia la pt ra R).set 45 (ad 45, .inl (ct 0, 24, .inl g)) = XW ct ad iv (va_up ia 45 g) la pt ra R := rfl
theorem sx_la_46 (ct : Nat → ClassId) (ad : Nat → Nat) (iv : Nat → Int32) (ia : Nat → Nat → Int32) (la : Nat → Nat → Int64) (pt : Nat → Option Nat) (ra : Nat → Nat → Option Nat) (R : va_W) (g : Nat → Int64) : (XW ct ad iv ia la pt ra R).set 46 (ad 46, .inl (ct 2, 40, .inr (.inl g))) = XW ct ad iv ia (va_up la 46 g) pt ra R := rfl
theorem sx_ia_47 (ct : Nat → ClassId) (ad : Nat → Nat) (iv : Nat → Int32) (ia : Nat → Nat → Int32) (la : Nat → Nat → Int64) (pt : Nat → Option Nat) (ra : Nat → Nat → Option Nat) (R : va_W) (g : Nat → Int32) : (XW ct ad iv ia la pt ra R).set 47 (ad 47, .inl (ct 0, 24, .inl g)) = XW ct ad iv (va_up ia 47 g) la pt ra R := rfl
theorem sx_ia_48 (ct : Nat → ClassId) (ad : Nat → Nat) (iv : Nat → Int32) (ia : Nat → Nat → Int32) (la : Nat → Nat → Int64) (pt : Nat → Option Nat) (ra : Nat → Nat → Option Nat) (R : va_W) (g : Nat → Int32) : (XW ct ad iv ia la pt ra R).set 48 (ad 48, .inl (ct 3, 24, .inl g)) = XW ct ad iv (va_up ia 48 g) la pt ra R := rfl
theorem sx_ia_49 (ct : Nat → ClassId) (ad : Nat → Nat) (iv : Nat → Int32) (ia : Nat → Nat → Int32) (la : Nat → Nat → Int64) (pt : Nat → Option Nat) (ra : Nat → Nat → Option Nat) (R : va_W) (g : Nat → Int32) : (XW ct ad iv ia la pt ra R).set 49 (ad 49, .inl (ct 0, 6, .inl g)) = XW ct ad iv (va_up ia 49 g) la pt ra R := rfl
theorem sx_ia_51 (ct : Nat → ClassId) (ad : Nat → Nat) (iv : Nat → Int32) (ia : Nat → Nat → Int32) (la : Nat → Nat → Int64) (pt : Nat → Option Nat) (ra : Nat → Nat → Option Nat) (R : va_W) (g : Nat → Int32) : (XW ct ad iv ia la pt ra R).set 51 (ad 51, .inl (ct 0, 8, .inl g)) = XW ct ad iv (va_up ia 51 g) la pt ra R := rfl
theorem sx_ia_52 (ct : Nat → ClassId) (ad : Nat → Nat) (iv : Nat → Int32) (ia : Nat → Nat → Int32) (la : Nat → Nat → Int64) (pt : Nat → Option Nat) (ra : Nat → Nat → Option Nat) (R : va_W) (g : Nat → Int32) : (XW ct ad iv ia la pt ra R).set 52 (ad 52, .inl (ct 0, 6, .inl g)) = XW ct ad iv (va_up ia 52 g) la pt ra R := rfl
theorem sx_ia_53 (ct : Nat → ClassId) (ad : Nat → Nat) (iv : Nat → Int32) (ia : Nat → Nat → Int32) (la : Nat → Nat → Int64) (pt : Nat → Option Nat) (ra : Nat → Nat → Option Nat) (R : va_W) (g : Nat → Int32) : (XW ct ad iv ia la pt ra R).set 53 (ad 53, .inl (ct 0, 6, .inl g)) = XW ct ad iv (va_up ia 53 g) la pt ra R := rfl
theorem sx_ia_54 (ct : Nat → ClassId) (ad : Nat → Nat) (iv : Nat → Int32) (ia : Nat → Nat → Int32) (la : Nat → Nat → Int64) (pt : Nat → Option Nat) (ra : Nat → Nat → Option Nat) (R : va_W) (g : Nat → Int32) : (XW ct ad iv ia la pt ra R).set 54 (ad 54, .inl (ct 0, 6, .inl g)) = XW ct ad iv (va_up ia 54 g) la pt ra R := rfl
theorem sx_ia_55 (ct : Nat → ClassId) (ad : Nat → Nat) (iv : Nat → Int32) (ia : Nat → Nat → Int32) (la : Nat → Nat → Int64) (pt : Nat → Option Nat) (ra : Nat → Nat → Option Nat) (R : va_W) (g : Nat → Int32) : (XW ct ad iv ia la pt ra R).set 55 (ad 55, .inl (ct 0, 6, .inl g)) = XW ct ad iv (va_up ia 55 g) la pt ra R := rfl
theorem sm_iv_0 (ct : Nat → ClassId) (ad : Nat → Nat) (iv : Nat → Int32) (ia : Nat → Nat → Int32) (R : va_W) (z : Int32) : (MW ct ad iv ia R).set 0 (ad 0, .inr (12, ([.ref (ad 1), .int (iv 0), .int (iv 1), .int (iv 2), .int (iv 3), .int (iv 4), .int (iv 5), .int (iv 6), .int (iv 7), .int (iv 8), .ref (ad 2), .ref (ad 3), .ref (ad 4), .ref (ad 5), .ref (ad 6), .ref (ad 7), .ref (ad 8), .ref (ad 9), .ref (ad 10), .ref (ad 11), .ref (ad 12), .ref (ad 13), .ref (ad 14), .ref (ad 15), .ref (ad 16), .ref (ad 17), .ref (ad 18), .ref (ad 19), .ref (ad 20), .ref (ad 21), .ref (ad 22), .ref (ad 23), .ref (ad 24), .ref (ad 25), .ref (ad 26), .int (iv 9), .int (iv 10), .int (iv 11), .int (iv 12), .int (iv 13), .int (iv 14), .int (iv 15), .int (iv 16), .int (iv 17), .ref (ad 27), .ref (ad 28), .ref (ad 29), .ref (ad 30), .ref (ad 31), .ref (ad 32), .ref (ad 33), .ref (ad 34), .ref (ad 35), .ref (ad 36), .ref (ad 37), .ref (ad 38), .ref (ad 39), .ref (ad 40), .ref (ad 41), .ref (ad 42), .ref (ad 43), .ref (ad 44), .ref (ad 45), .ref (ad 46), .ref (ad 47), .ref (ad 48), .ref (ad 49), .ref (ad 50), .int (iv 18), .ref (ad 51), .ref (ad 52), .ref (ad 53), .int (iv 19), .int (iv 20), .int (iv 21), .int (iv 22), .int (iv 23), .int (iv 24), .int (iv 25), .ref (ad 54), .int (iv 26), .ref (ad 55), .ref (ad 56), .ref (ad 57), .ref (ad 58), .ref (ad 59), .ref (ad 60), .ref (ad 61), .ref (ad 62), .int (iv 27), .ref (ad 63), .int (iv 28), .int (iv 29), .ref (ad 64), .ref (ad 65), .ref (ad 66)] : List Value).set 1 (.int z))) = MW ct ad (va_up iv 0 z) ia R := rfl
theorem sm_iv_1 (ct : Nat → ClassId) (ad : Nat → Nat) (iv : Nat → Int32) (ia : Nat → Nat → Int32) (R : va_W) (z : Int32) : (MW ct ad iv ia R).set 0 (ad 0, .inr (12, ([.ref (ad 1), .int (iv 0), .int (iv 1), .int (iv 2), .int (iv 3), .int (iv 4), .int (iv 5), .int (iv 6), .int (iv 7), .int (iv 8), .ref (ad 2), .ref (ad 3), .ref (ad 4), .ref (ad 5), .ref (ad 6), .ref (ad 7), .ref (ad 8), .ref (ad 9), .ref (ad 10), .ref (ad 11), .ref (ad 12), .ref (ad 13), .ref (ad 14), .ref (ad 15), .ref (ad 16), .ref (ad 17), .ref (ad 18), .ref (ad 19), .ref (ad 20), .ref (ad 21), .ref (ad 22), .ref (ad 23), .ref (ad 24), .ref (ad 25), .ref (ad 26), .int (iv 9), .int (iv 10), .int (iv 11), .int (iv 12), .int (iv 13), .int (iv 14), .int (iv 15), .int (iv 16), .int (iv 17), .ref (ad 27), .ref (ad 28), .ref (ad 29), .ref (ad 30), .ref (ad 31), .ref (ad 32), .ref (ad 33), .ref (ad 34), .ref (ad 35), .ref (ad 36), .ref (ad 37), .ref (ad 38), .ref (ad 39), .ref (ad 40), .ref (ad 41), .ref (ad 42), .ref (ad 43), .ref (ad 44), .ref (ad 45), .ref (ad 46), .ref (ad 47), .ref (ad 48), .ref (ad 49), .ref (ad 50), .int (iv 18), .ref (ad 51), .ref (ad 52), .ref (ad 53), .int (iv 19), .int (iv 20), .int (iv 21), .int (iv 22), .int (iv 23), .int (iv 24), .int (iv 25), .ref (ad 54), .int (iv 26), .ref (ad 55), .ref (ad 56), .ref (ad 57), .ref (ad 58), .ref (ad 59), .ref (ad 60), .ref (ad 61), .ref (ad 62), .int (iv 27), .ref (ad 63), .int (iv 28), .int (iv 29), .ref (ad 64), .ref (ad 65), .ref (ad 66)] : List Value).set 2 (.int z))) = MW ct ad (va_up iv 1 z) ia R := rfl
theorem sm_iv_2 (ct : Nat → ClassId) (ad : Nat → Nat) (iv : Nat → Int32) (ia : Nat → Nat → Int32) (R : va_W) (z : Int32) : (MW ct ad iv ia R).set 0 (ad 0, .inr (12, ([.ref (ad 1), .int (iv 0), .int (iv 1), .int (iv 2), .int (iv 3), .int (iv 4), .int (iv 5), .int (iv 6), .int (iv 7), .int (iv 8), .ref (ad 2), .ref (ad 3), .ref (ad 4), .ref (ad 5), .ref (ad 6), .ref (ad 7), .ref (ad 8), .ref (ad 9), .ref (ad 10), .ref (ad 11), .ref (ad 12), .ref (ad 13), .ref (ad 14), .ref (ad 15), .ref (ad 16), .ref (ad 17), .ref (ad 18), .ref (ad 19), .ref (ad 20), .ref (ad 21), .ref (ad 22), .ref (ad 23), .ref (ad 24), .ref (ad 25), .ref (ad 26), .int (iv 9), .int (iv 10), .int (iv 11), .int (iv 12), .int (iv 13), .int (iv 14), .int (iv 15), .int (iv 16), .int (iv 17), .ref (ad 27), .ref (ad 28), .ref (ad 29), .ref (ad 30), .ref (ad 31), .ref (ad 32), .ref (ad 33), .ref (ad 34), .ref (ad 35), .ref (ad 36), .ref (ad 37), .ref (ad 38), .ref (ad 39), .ref (ad 40), .ref (ad 41), .ref (ad 42), .ref (ad 43), .ref (ad 44), .ref (ad 45), .ref (ad 46), .ref (ad 47), .ref (ad 48), .ref (ad 49), .ref (ad 50), .int (iv 18), .ref (ad 51), .ref (ad 52), .ref (ad 53), .int (iv 19), .int (iv 20), .int (iv 21), .int (iv 22), .int (iv 23), .int (iv 24), .int (iv 25), .ref (ad 54), .int (iv 26), .ref (ad 55), .ref (ad 56), .ref (ad 57), .ref (ad 58), .ref (ad 59), .ref (ad 60), .ref (ad 61), .ref (ad 62), .int (iv 27), .ref (ad 63), .int (iv 28), .int (iv 29), .ref (ad 64), .ref (ad 65), .ref (ad 66)] : List Value).set 3 (.int z))) = MW ct ad (va_up iv 2 z) ia R := rfl
theorem sm_iv_3 (ct : Nat → ClassId) (ad : Nat → Nat) (iv : Nat → Int32) (ia : Nat → Nat → Int32) (R : va_W) (z : Int32) : (MW ct ad iv ia R).set 0 (ad 0, .inr (12, ([.ref (ad 1), .int (iv 0), .int (iv 1), .int (iv 2), .int (iv 3), .int (iv 4), .int (iv 5), .int (iv 6), .int (iv 7), .int (iv 8), .ref (ad 2), .ref (ad 3), .ref (ad 4), .ref (ad 5), .ref (ad 6), .ref (ad 7), .ref (ad 8), .ref (ad 9), .ref (ad 10), .ref (ad 11), .ref (ad 12), .ref (ad 13), .ref (ad 14), .ref (ad 15), .ref (ad 16), .ref (ad 17), .ref (ad 18), .ref (ad 19), .ref (ad 20), .ref (ad 21), .ref (ad 22), .ref (ad 23), .ref (ad 24), .ref (ad 25), .ref (ad 26), .int (iv 9), .int (iv 10), .int (iv 11), .int (iv 12), .int (iv 13), .int (iv 14), .int (iv 15), .int (iv 16), .int (iv 17), .ref (ad 27), .ref (ad 28), .ref (ad 29), .ref (ad 30), .ref (ad 31), .ref (ad 32), .ref (ad 33), .ref (ad 34), .ref (ad 35), .ref (ad 36), .ref (ad 37), .ref (ad 38), .ref (ad 39), .ref (ad 40), .ref (ad 41), .ref (ad 42), .ref (ad 43), .ref (ad 44), .ref (ad 45), .ref (ad 46), .ref (ad 47), .ref (ad 48), .ref (ad 49), .ref (ad 50), .int (iv 18), .ref (ad 51), .ref (ad 52), .ref (ad 53), .int (iv 19), .int (iv 20), .int (iv 21), .int (iv 22), .int (iv 23), .int (iv 24), .int (iv 25), .ref (ad 54), .int (iv 26), .ref (ad 55), .ref (ad 56), .ref (ad 57), .ref (ad 58), .ref (ad 59), .ref (ad 60), .ref (ad 61), .ref (ad 62), .int (iv 27), .ref (ad 63), .int (iv 28), .int (iv 29), .ref (ad 64), .ref (ad 65), .ref (ad 66)] : List Value).set 4 (.int z))) = MW ct ad (va_up iv 3 z) ia R := rfl
theorem sm_iv_4 (ct : Nat → ClassId) (ad : Nat → Nat) (iv : Nat → Int32) (ia : Nat → Nat → Int32) (R : va_W) (z : Int32) : (MW ct ad iv ia R).set 0 (ad 0, .inr (12, ([.ref (ad 1), .int (iv 0), .int (iv 1), .int (iv 2), .int (iv 3), .int (iv 4), .int (iv 5), .int (iv 6), .int (iv 7), .int (iv 8), .ref (ad 2), .ref (ad 3), .ref (ad 4), .ref (ad 5), .ref (ad 6), .ref (ad 7), .ref (ad 8), .ref (ad 9), .ref (ad 10), .ref (ad 11), .ref (ad 12), .ref (ad 13), .ref (ad 14), .ref (ad 15), .ref (ad 16), .ref (ad 17), .ref (ad 18), .ref (ad 19), .ref (ad 20), .ref (ad 21), .ref (ad 22), .ref (ad 23), .ref (ad 24), .ref (ad 25), .ref (ad 26), .int (iv 9), .int (iv 10), .int (iv 11), .int (iv 12), .int (iv 13), .int (iv 14), .int (iv 15), .int (iv 16), .int (iv 17), .ref (ad 27), .ref (ad 28), .ref (ad 29), .ref (ad 30), .ref (ad 31), .ref (ad 32), .ref (ad 33), .ref (ad 34), .ref (ad 35), .ref (ad 36), .ref (ad 37), .ref (ad 38), .ref (ad 39), .ref (ad 40), .ref (ad 41), .ref (ad 42), .ref (ad 43), .ref (ad 44), .ref (ad 45), .ref (ad 46), .ref (ad 47), .ref (ad 48), .ref (ad 49), .ref (ad 50), .int (iv 18), .ref (ad 51), .ref (ad 52), .ref (ad 53), .int (iv 19), .int (iv 20), .int (iv 21), .int (iv 22), .int (iv 23), .int (iv 24), .int (iv 25), .ref (ad 54), .int (iv 26), .ref (ad 55), .ref (ad 56), .ref (ad 57), .ref (ad 58), .ref (ad 59), .ref (ad 60), .ref (ad 61), .ref (ad 62), .int (iv 27), .ref (ad 63), .int (iv 28), .int (iv 29), .ref (ad 64), .ref (ad 65), .ref (ad 66)] : List Value).set 5 (.int z))) = MW ct ad (va_up iv 4 z) ia R := rfl
theorem sm_iv_5 (ct : Nat → ClassId) (ad : Nat → Nat) (iv : Nat → Int32) (ia : Nat → Nat → Int32) (R : va_W) (z : Int32) : (MW ct ad iv ia R).set 0 (ad 0, .inr (12, ([.ref (ad 1), .int (iv 0), .int (iv 1), .int (iv 2), .int (iv 3), .int (iv 4), .int (iv 5), .int (iv 6), .int (iv 7), .int (iv 8), .ref (ad 2), .ref (ad 3), .ref (ad 4), .ref (ad 5), .ref (ad 6), .ref (ad 7), .ref (ad 8), .ref (ad 9), .ref (ad 10), .ref (ad 11), .ref (ad 12), .ref (ad 13), .ref (ad 14), .ref (ad 15), .ref (ad 16), .ref (ad 17), .ref (ad 18), .ref (ad 19), .ref (ad 20), .ref (ad 21), .ref (ad 22), .ref (ad 23), .ref (ad 24), .ref (ad 25), .ref (ad 26), .int (iv 9), .int (iv 10), .int (iv 11), .int (iv 12), .int (iv 13), .int (iv 14), .int (iv 15), .int (iv 16), .int (iv 17), .ref (ad 27), .ref (ad 28), .ref (ad 29), .ref (ad 30), .ref (ad 31), .ref (ad 32), .ref (ad 33), .ref (ad 34), .ref (ad 35), .ref (ad 36), .ref (ad 37), .ref (ad 38), .ref (ad 39), .ref (ad 40), .ref (ad 41), .ref (ad 42), .ref (ad 43), .ref (ad 44), .ref (ad 45), .ref (ad 46), .ref (ad 47), .ref (ad 48), .ref (ad 49), .ref (ad 50), .int (iv 18), .ref (ad 51), .ref (ad 52), .ref (ad 53), .int (iv 19), .int (iv 20), .int (iv 21), .int (iv 22), .int (iv 23), .int (iv 24), .int (iv 25), .ref (ad 54), .int (iv 26), .ref (ad 55), .ref (ad 56), .ref (ad 57), .ref (ad 58), .ref (ad 59), .ref (ad 60), .ref (ad 61), .ref (ad 62), .int (iv 27), .ref (ad 63), .int (iv 28), .int (iv 29), .ref (ad 64), .ref (ad 65), .ref (ad 66)] : List Value).set 6 (.int z))) = MW ct ad (va_up iv 5 z) ia R := rfl
theorem sm_iv_6 (ct : Nat → ClassId) (ad : Nat → Nat) (iv : Nat → Int32) (ia : Nat → Nat → Int32) (R : va_W) (z : Int32) : (MW ct ad iv ia R).set 0 (ad 0, .inr (12, ([.ref (ad 1), .int (iv 0), .int (iv 1), .int (iv 2), .int (iv 3), .int (iv 4), .int (iv 5), .int (iv 6), .int (iv 7), .int (iv 8), .ref (ad 2), .ref (ad 3), .ref (ad 4), .ref (ad 5), .ref (ad 6), .ref (ad 7), .ref (ad 8), .ref (ad 9), .ref (ad 10), .ref (ad 11), .ref (ad 12), .ref (ad 13), .ref (ad 14), .ref (ad 15), .ref (ad 16), .ref (ad 17), .ref (ad 18), .ref (ad 19), .ref (ad 20), .ref (ad 21), .ref (ad 22), .ref (ad 23), .ref (ad 24), .ref (ad 25), .ref (ad 26), .int (iv 9), .int (iv 10), .int (iv 11), .int (iv 12), .int (iv 13), .int (iv 14), .int (iv 15), .int (iv 16), .int (iv 17), .ref (ad 27), .ref (ad 28), .ref (ad 29), .ref (ad 30), .ref (ad 31), .ref (ad 32), .ref (ad 33), .ref (ad 34), .ref (ad 35), .ref (ad 36), .ref (ad 37), .ref (ad 38), .ref (ad 39), .ref (ad 40), .ref (ad 41), .ref (ad 42), .ref (ad 43), .ref (ad 44), .ref (ad 45), .ref (ad 46), .ref (ad 47), .ref (ad 48), .ref (ad 49), .ref (ad 50), .int (iv 18), .ref (ad 51), .ref (ad 52), .ref (ad 53), .int (iv 19), .int (iv 20), .int (iv 21), .int (iv 22), .int (iv 23), .int (iv 24), .int (iv 25), .ref (ad 54), .int (iv 26), .ref (ad 55), .ref (ad 56), .ref (ad 57), .ref (ad 58), .ref (ad 59), .ref (ad 60), .ref (ad 61), .ref (ad 62), .int (iv 27), .ref (ad 63), .int (iv 28), .int (iv 29), .ref (ad 64), .ref (ad 65), .ref (ad 66)] : List Value).set 7 (.int z))) = MW ct ad (va_up iv 6 z) ia R := rfl
theorem sm_iv_7 (ct : Nat → ClassId) (ad : Nat → Nat) (iv : Nat → Int32) (ia : Nat → Nat → Int32) (R : va_W) (z : Int32) : (MW ct ad iv ia R).set 0 (ad 0, .inr (12, ([.ref (ad 1), .int (iv 0), .int (iv 1), .int (iv 2), .int (iv 3), .int (iv 4), .int (iv 5), .int (iv 6), .int (iv 7), .int (iv 8), .ref (ad 2), .ref (ad 3), .ref (ad 4), .ref (ad 5), .ref (ad 6), .ref (ad 7), .ref (ad 8), .ref (ad 9), .ref (ad 10), .ref (ad 11), .ref (ad 12), .ref (ad 13), .ref (ad 14), .ref (ad 15), .ref (ad 16), .ref (ad 17), .ref (ad 18), .ref (ad 19), .ref (ad 20), .ref (ad 21), .ref (ad 22), .ref (ad 23), .ref (ad 24), .ref (ad 25), .ref (ad 26), .int (iv 9), .int (iv 10), .int (iv 11), .int (iv 12), .int (iv 13), .int (iv 14), .int (iv 15), .int (iv 16), .int (iv 17), .ref (ad 27), .ref (ad 28), .ref (ad 29), .ref (ad 30), .ref (ad 31), .ref (ad 32), .ref (ad 33), .ref (ad 34), .ref (ad 35), .ref (ad 36), .ref (ad 37), .ref (ad 38), .ref (ad 39), .ref (ad 40), .ref (ad 41), .ref (ad 42), .ref (ad 43), .ref (ad 44), .ref (ad 45), .ref (ad 46), .ref (ad 47), .ref (ad 48), .ref (ad 49), .ref (ad 50), .int (iv 18), .ref (ad 51), .ref (ad 52), .ref (ad 53), .int (iv 19), .int (iv 20), .int (iv 21), .int (iv 22), .int (iv 23), .int (iv 24), .int (iv 25), .ref (ad 54), .int (iv 26), .ref (ad 55), .ref (ad 56), .ref (ad 57), .ref (ad 58), .ref (ad 59), .ref (ad 60), .ref (ad 61), .ref (ad 62), .int (iv 27), .ref (ad 63), .int (iv 28), .int (iv 29), .ref (ad 64), .ref (ad 65), .ref (ad 66)] : List Value).set 8 (.int z))) = MW ct ad (va_up iv 7 z) ia R := rfl
theorem sm_iv_8 (ct : Nat → ClassId) (ad : Nat → Nat) (iv : Nat → Int32) (ia : Nat → Nat → Int32) (R : va_W) (z : Int32) : (MW ct ad iv ia R).set 0 (ad 0, .inr (12, ([.ref (ad 1), .int (iv 0), .int (iv 1), .int (iv 2), .int (iv 3), .int (iv 4), .int (iv 5), .int (iv 6), .int (iv 7), .int (iv 8), .ref (ad 2), .ref (ad 3), .ref (ad 4), .ref (ad 5), .ref (ad 6), .ref (ad 7), .ref (ad 8), .ref (ad 9), .ref (ad 10), .ref (ad 11), .ref (ad 12), .ref (ad 13), .ref (ad 14), .ref (ad 15), .ref (ad 16), .ref (ad 17), .ref (ad 18), .ref (ad 19), .ref (ad 20), .ref (ad 21), .ref (ad 22), .ref (ad 23), .ref (ad 24), .ref (ad 25), .ref (ad 26), .int (iv 9), .int (iv 10), .int (iv 11), .int (iv 12), .int (iv 13), .int (iv 14), .int (iv 15), .int (iv 16), .int (iv 17), .ref (ad 27), .ref (ad 28), .ref (ad 29), .ref (ad 30), .ref (ad 31), .ref (ad 32), .ref (ad 33), .ref (ad 34), .ref (ad 35), .ref (ad 36), .ref (ad 37), .ref (ad 38), .ref (ad 39), .ref (ad 40), .ref (ad 41), .ref (ad 42), .ref (ad 43), .ref (ad 44), .ref (ad 45), .ref (ad 46), .ref (ad 47), .ref (ad 48), .ref (ad 49), .ref (ad 50), .int (iv 18), .ref (ad 51), .ref (ad 52), .ref (ad 53), .int (iv 19), .int (iv 20), .int (iv 21), .int (iv 22), .int (iv 23), .int (iv 24), .int (iv 25), .ref (ad 54), .int (iv 26), .ref (ad 55), .ref (ad 56), .ref (ad 57), .ref (ad 58), .ref (ad 59), .ref (ad 60), .ref (ad 61), .ref (ad 62), .int (iv 27), .ref (ad 63), .int (iv 28), .int (iv 29), .ref (ad 64), .ref (ad 65), .ref (ad 66)] : List Value).set 9 (.int z))) = MW ct ad (va_up iv 8 z) ia R := rfl
theorem sm_iv_9 (ct : Nat → ClassId) (ad : Nat → Nat) (iv : Nat → Int32) (ia : Nat → Nat → Int32) (R : va_W) (z : Int32) : (MW ct ad iv ia R).set 0 (ad 0, .inr (12, ([.ref (ad 1), .int (iv 0), .int (iv 1), .int (iv 2), .int (iv 3), .int (iv 4), .int (iv 5), .int (iv 6), .int (iv 7), .int (iv 8), .ref (ad 2), .ref (ad 3), .ref (ad 4), .ref (ad 5), .ref (ad 6), .ref (ad 7), .ref (ad 8), .ref (ad 9), .ref (ad 10), .ref (ad 11), .ref (ad 12), .ref (ad 13), .ref (ad 14), .ref (ad 15), .ref (ad 16), .ref (ad 17), .ref (ad 18), .ref (ad 19), .ref (ad 20), .ref (ad 21), .ref (ad 22), .ref (ad 23), .ref (ad 24), .ref (ad 25), .ref (ad 26), .int (iv 9), .int (iv 10), .int (iv 11), .int (iv 12), .int (iv 13), .int (iv 14), .int (iv 15), .int (iv 16), .int (iv 17), .ref (ad 27), .ref (ad 28), .ref (ad 29), .ref (ad 30), .ref (ad 31), .ref (ad 32), .ref (ad 33), .ref (ad 34), .ref (ad 35), .ref (ad 36), .ref (ad 37), .ref (ad 38), .ref (ad 39), .ref (ad 40), .ref (ad 41), .ref (ad 42), .ref (ad 43), .ref (ad 44), .ref (ad 45), .ref (ad 46), .ref (ad 47), .ref (ad 48), .ref (ad 49), .ref (ad 50), .int (iv 18), .ref (ad 51), .ref (ad 52), .ref (ad 53), .int (iv 19), .int (iv 20), .int (iv 21), .int (iv 22), .int (iv 23), .int (iv 24), .int (iv 25), .ref (ad 54), .int (iv 26), .ref (ad 55), .ref (ad 56), .ref (ad 57), .ref (ad 58), .ref (ad 59), .ref (ad 60), .ref (ad 61), .ref (ad 62), .int (iv 27), .ref (ad 63), .int (iv 28), .int (iv 29), .ref (ad 64), .ref (ad 65), .ref (ad 66)] : List Value).set 35 (.int z))) = MW ct ad (va_up iv 9 z) ia R := rfl
theorem sm_iv_10 (ct : Nat → ClassId) (ad : Nat → Nat) (iv : Nat → Int32) (ia : Nat → Nat → Int32) (R : va_W) (z : Int32) : (MW ct ad iv ia R).set 0 (ad 0, .inr (12, ([.ref (ad 1), .int (iv 0), .int (iv 1), .int (iv 2), .int (iv 3), .int (iv 4), .int (iv 5), .int (iv 6), .int (iv 7), .int (iv 8), .ref (ad 2), .ref (ad 3), .ref (ad 4), .ref (ad 5), .ref (ad 6), .ref (ad 7), .ref (ad 8), .ref (ad 9), .ref (ad 10), .ref (ad 11), .ref (ad 12), .ref (ad 13), .ref (ad 14), .ref (ad 15), .ref (ad 16), .ref (ad 17), .ref (ad 18), .ref (ad 19), .ref (ad 20), .ref (ad 21), .ref (ad 22), .ref (ad 23), .ref (ad 24), .ref (ad 25), .ref (ad 26), .int (iv 9), .int (iv 10), .int (iv 11), .int (iv 12), .int (iv 13), .int (iv 14), .int (iv 15), .int (iv 16), .int (iv 17), .ref (ad 27), .ref (ad 28), .ref (ad 29), .ref (ad 30), .ref (ad 31), .ref (ad 32), .ref (ad 33), .ref (ad 34), .ref (ad 35), .ref (ad 36), .ref (ad 37), .ref (ad 38), .ref (ad 39), .ref (ad 40), .ref (ad 41), .ref (ad 42), .ref (ad 43), .ref (ad 44), .ref (ad 45), .ref (ad 46), .ref (ad 47), .ref (ad 48), .ref (ad 49), .ref (ad 50), .int (iv 18), .ref (ad 51), .ref (ad 52), .ref (ad 53), .int (iv 19), .int (iv 20), .int (iv 21), .int (iv 22), .int (iv 23), .int (iv 24), .int (iv 25), .ref (ad 54), .int (iv 26), .ref (ad 55), .ref (ad 56), .ref (ad 57), .ref (ad 58), .ref (ad 59), .ref (ad 60), .ref (ad 61), .ref (ad 62), .int (iv 27), .ref (ad 63), .int (iv 28), .int (iv 29), .ref (ad 64), .ref (ad 65), .ref (ad 66)] : List Value).set 36 (.int z))) = MW ct ad (va_up iv 10 z) ia R := rfl
theorem sm_iv_11 (ct : Nat → ClassId) (ad : Nat → Nat) (iv : Nat → Int32) (ia : Nat → Nat → Int32) (R : va_W) (z : Int32) : (MW ct ad iv ia R).set 0 (ad 0, .inr (12, ([.ref (ad 1), .int (iv 0), .int (iv 1), .int (iv 2), .int (iv 3), .int (iv 4), .int (iv 5), .int (iv 6), .int (iv 7), .int (iv 8), .ref (ad 2), .ref (ad 3), .ref (ad 4), .ref (ad 5), .ref (ad 6), .ref (ad 7), .ref (ad 8), .ref (ad 9), .ref (ad 10), .ref (ad 11), .ref (ad 12), .ref (ad 13), .ref (ad 14), .ref (ad 15), .ref (ad 16), .ref (ad 17), .ref (ad 18), .ref (ad 19), .ref (ad 20), .ref (ad 21), .ref (ad 22), .ref (ad 23), .ref (ad 24), .ref (ad 25), .ref (ad 26), .int (iv 9), .int (iv 10), .int (iv 11), .int (iv 12), .int (iv 13), .int (iv 14), .int (iv 15), .int (iv 16), .int (iv 17), .ref (ad 27), .ref (ad 28), .ref (ad 29), .ref (ad 30), .ref (ad 31), .ref (ad 32), .ref (ad 33), .ref (ad 34), .ref (ad 35), .ref (ad 36), .ref (ad 37), .ref (ad 38), .ref (ad 39), .ref (ad 40), .ref (ad 41), .ref (ad 42), .ref (ad 43), .ref (ad 44), .ref (ad 45), .ref (ad 46), .ref (ad 47), .ref (ad 48), .ref (ad 49), .ref (ad 50), .int (iv 18), .ref (ad 51), .ref (ad 52), .ref (ad 53), .int (iv 19), .int (iv 20), .int (iv 21), .int (iv 22), .int (iv 23), .int (iv 24), .int (iv 25), .ref (ad 54), .int (iv 26), .ref (ad 55), .ref (ad 56), .ref (ad 57), .ref (ad 58), .ref (ad 59), .ref (ad 60), .ref (ad 61), .ref (ad 62), .int (iv 27), .ref (ad 63), .int (iv 28), .int (iv 29), .ref (ad 64), .ref (ad 65), .ref (ad 66)] : List Value).set 37 (.int z))) = MW ct ad (va_up iv 11 z) ia R := rfl
theorem sm_iv_12 (ct : Nat → ClassId) (ad : Nat → Nat) (iv : Nat → Int32) (ia : Nat → Nat → Int32) (R : va_W) (z : Int32) : (MW ct ad iv ia R).set 0 (ad 0, .inr (12, ([.ref (ad 1), .int (iv 0), .int (iv 1), .int (iv 2), .int (iv 3), .int (iv 4), .int (iv 5), .int (iv 6), .int (iv 7), .int (iv 8), .ref (ad 2), .ref (ad 3), .ref (ad 4), .ref (ad 5), .ref (ad 6), .ref (ad 7), .ref (ad 8), .ref (ad 9), .ref (ad 10), .ref (ad 11), .ref (ad 12), .ref (ad 13), .ref (ad 14), .ref (ad 15), .ref (ad 16), .ref (ad 17), .ref (ad 18), .ref (ad 19), .ref (ad 20), .ref (ad 21), .ref (ad 22), .ref (ad 23), .ref (ad 24), .ref (ad 25), .ref (ad 26), .int (iv 9), .int (iv 10), .int (iv 11), .int (iv 12), .int (iv 13), .int (iv 14), .int (iv 15), .int (iv 16), .int (iv 17), .ref (ad 27), .ref (ad 28), .ref (ad 29), .ref (ad 30), .ref (ad 31), .ref (ad 32), .ref (ad 33), .ref (ad 34), .ref (ad 35), .ref (ad 36), .ref (ad 37), .ref (ad 38), .ref (ad 39), .ref (ad 40), .ref (ad 41), .ref (ad 42), .ref (ad 43), .ref (ad 44), .ref (ad 45), .ref (ad 46), .ref (ad 47), .ref (ad 48), .ref (ad 49), .ref (ad 50), .int (iv 18), .ref (ad 51), .ref (ad 52), .ref (ad 53), .int (iv 19), .int (iv 20), .int (iv 21), .int (iv 22), .int (iv 23), .int (iv 24), .int (iv 25), .ref (ad 54), .int (iv 26), .ref (ad 55), .ref (ad 56), .ref (ad 57), .ref (ad 58), .ref (ad 59), .ref (ad 60), .ref (ad 61), .ref (ad 62), .int (iv 27), .ref (ad 63), .int (iv 28), .int (iv 29), .ref (ad 64), .ref (ad 65), .ref (ad 66)] : List Value).set 38 (.int z))) = MW ct ad (va_up iv 12 z) ia R := rfl
theorem sm_iv_13 (ct : Nat → ClassId) (ad : Nat → Nat) (iv : Nat → Int32) (ia : Nat → Nat → Int32) (R : va_W) (z : Int32) : (MW ct ad iv ia R).set 0 (ad 0, .inr (12, ([.ref (ad 1), .int (iv 0), .int (iv 1), .int (iv 2), .int (iv 3), .int (iv 4), .int (iv 5), .int (iv 6), .int (iv 7), .int (iv 8), .ref (ad 2), .ref (ad 3), .ref (ad 4), .ref (ad 5), .ref (ad 6), .ref (ad 7), .ref (ad 8), .ref (ad 9), .ref (ad 10), .ref (ad 11), .ref (ad 12), .ref (ad 13), .ref (ad 14), .ref (ad 15), .ref (ad 16), .ref (ad 17), .ref (ad 18), .ref (ad 19), .ref (ad 20), .ref (ad 21), .ref (ad 22), .ref (ad 23), .ref (ad 24), .ref (ad 25), .ref (ad 26), .int (iv 9), .int (iv 10), .int (iv 11), .int (iv 12), .int (iv 13), .int (iv 14), .int (iv 15), .int (iv 16), .int (iv 17), .ref (ad 27), .ref (ad 28), .ref (ad 29), .ref (ad 30), .ref (ad 31), .ref (ad 32), .ref (ad 33), .ref (ad 34), .ref (ad 35), .ref (ad 36), .ref (ad 37), .ref (ad 38), .ref (ad 39), .ref (ad 40), .ref (ad 41), .ref (ad 42), .ref (ad 43), .ref (ad 44), .ref (ad 45), .ref (ad 46), .ref (ad 47), .ref (ad 48), .ref (ad 49), .ref (ad 50), .int (iv 18), .ref (ad 51), .ref (ad 52), .ref (ad 53), .int (iv 19), .int (iv 20), .int (iv 21), .int (iv 22), .int (iv 23), .int (iv 24), .int (iv 25), .ref (ad 54), .int (iv 26), .ref (ad 55), .ref (ad 56), .ref (ad 57), .ref (ad 58), .ref (ad 59), .ref (ad 60), .ref (ad 61), .ref (ad 62), .int (iv 27), .ref (ad 63), .int (iv 28), .int (iv 29), .ref (ad 64), .ref (ad 65), .ref (ad 66)] : List Value).set 39 (.int z))) = MW ct ad (va_up iv 13 z) ia R := rfl
theorem sm_iv_14 (ct : Nat → ClassId) (ad : Nat → Nat) (iv : Nat → Int32) (ia : Nat → Nat → Int32) (R : va_W) (z : Int32) : (MW ct ad iv ia R).set 0 (ad 0, .inr (12, ([.ref (ad 1), .int (iv 0), .int (iv 1), .int (iv 2), .int (iv 3), .int (iv 4), .int (iv 5), .int (iv 6), .int (iv 7), .int (iv 8), .ref (ad 2), .ref (ad 3), .ref (ad 4), .ref (ad 5), .ref (ad 6), .ref (ad 7), .ref (ad 8), .ref (ad 9), .ref (ad 10), .ref (ad 11), .ref (ad 12), .ref (ad 13), .ref (ad 14), .ref (ad 15), .ref (ad 16), .ref (ad 17), .ref (ad 18), .ref (ad 19), .ref (ad 20), .ref (ad 21), .ref (ad 22), .ref (ad 23), .ref (ad 24), .ref (ad 25), .ref (ad 26), .int (iv 9), .int (iv 10), .int (iv 11), .int (iv 12), .int (iv 13), .int (iv 14), .int (iv 15), .int (iv 16), .int (iv 17), .ref (ad 27), .ref (ad 28), .ref (ad 29), .ref (ad 30), .ref (ad 31), .ref (ad 32), .ref (ad 33), .ref (ad 34), .ref (ad 35), .ref (ad 36), .ref (ad 37), .ref (ad 38), .ref (ad 39), .ref (ad 40), .ref (ad 41), .ref (ad 42), .ref (ad 43), .ref (ad 44), .ref (ad 45), .ref (ad 46), .ref (ad 47), .ref (ad 48), .ref (ad 49), .ref (ad 50), .int (iv 18), .ref (ad 51), .ref (ad 52), .ref (ad 53), .int (iv 19), .int (iv 20), .int (iv 21), .int (iv 22), .int (iv 23), .int (iv 24), .int (iv 25), .ref (ad 54), .int (iv 26), .ref (ad 55), .ref (ad 56), .ref (ad 57), .ref (ad 58), .ref (ad 59), .ref (ad 60), .ref (ad 61), .ref (ad 62), .int (iv 27), .ref (ad 63), .int (iv 28), .int (iv 29), .ref (ad 64), .ref (ad 65), .ref (ad 66)] : List Value).set 40 (.int z))) = MW ct ad (va_up iv 14 z) ia R := rfl
theorem sm_iv_15 (ct : Nat → ClassId) (ad : Nat → Nat) (iv : Nat → Int32) (ia : Nat → Nat → Int32) (R : va_W) (z : Int32) : (MW ct ad iv ia R).set 0 (ad 0, .inr (12, ([.ref (ad 1), .int (iv 0), .int (iv 1), .int (iv 2), .int (iv 3), .int (iv 4), .int (iv 5), .int (iv 6), .int (iv 7), .int (iv 8), .ref (ad 2), .ref (ad 3), .ref (ad 4), .ref (ad 5), .ref (ad 6), .ref (ad 7), .ref (ad 8), .ref (ad 9), .ref (ad 10), .ref (ad 11), .ref (ad 12), .ref (ad 13), .ref (ad 14), .ref (ad 15), .ref (ad 16), .ref (ad 17), .ref (ad 18), .ref (ad 19), .ref (ad 20), .ref (ad 21), .ref (ad 22), .ref (ad 23), .ref (ad 24), .ref (ad 25), .ref (ad 26), .int (iv 9), .int (iv 10), .int (iv 11), .int (iv 12), .int (iv 13), .int (iv 14), .int (iv 15), .int (iv 16), .int (iv 17), .ref (ad 27), .ref (ad 28), .ref (ad 29), .ref (ad 30), .ref (ad 31), .ref (ad 32), .ref (ad 33), .ref (ad 34), .ref (ad 35), .ref (ad 36), .ref (ad 37), .ref (ad 38), .ref (ad 39), .ref (ad 40), .ref (ad 41), .ref (ad 42), .ref (ad 43), .ref (ad 44), .ref (ad 45), .ref (ad 46), .ref (ad 47), .ref (ad 48), .ref (ad 49), .ref (ad 50), .int (iv 18), .ref (ad 51), .ref (ad 52), .ref (ad 53), .int (iv 19), .int (iv 20), .int (iv 21), .int (iv 22), .int (iv 23), .int (iv 24), .int (iv 25), .ref (ad 54), .int (iv 26), .ref (ad 55), .ref (ad 56), .ref (ad 57), .ref (ad 58), .ref (ad 59), .ref (ad 60), .ref (ad 61), .ref (ad 62), .int (iv 27), .ref (ad 63), .int (iv 28), .int (iv 29), .ref (ad 64), .ref (ad 65), .ref (ad 66)] : List Value).set 41 (.int z))) = MW ct ad (va_up iv 15 z) ia R := rfl
theorem sm_iv_16 (ct : Nat → ClassId) (ad : Nat → Nat) (iv : Nat → Int32) (ia : Nat → Nat → Int32) (R : va_W) (z : Int32) : (MW ct ad iv ia R).set 0 (ad 0, .inr (12, ([.ref (ad 1), .int (iv 0), .int (iv 1), .int (iv 2), .int (iv 3), .int (iv 4), .int (iv 5), .int (iv 6), .int (iv 7), .int (iv 8), .ref (ad 2), .ref (ad 3), .ref (ad 4), .ref (ad 5), .ref (ad 6), .ref (ad 7), .ref (ad 8), .ref (ad 9), .ref (ad 10), .ref (ad 11), .ref (ad 12), .ref (ad 13), .ref (ad 14), .ref (ad 15), .ref (ad 16), .ref (ad 17), .ref (ad 18), .ref (ad 19), .ref (ad 20), .ref (ad 21), .ref (ad 22), .ref (ad 23), .ref (ad 24), .ref (ad 25), .ref (ad 26), .int (iv 9), .int (iv 10), .int (iv 11), .int (iv 12), .int (iv 13), .int (iv 14), .int (iv 15), .int (iv 16), .int (iv 17), .ref (ad 27), .ref (ad 28), .ref (ad 29), .ref (ad 30), .ref (ad 31), .ref (ad 32), .ref (ad 33), .ref (ad 34), .ref (ad 35), .ref (ad 36), .ref (ad 37), .ref (ad 38), .ref (ad 39), .ref (ad 40), .ref (ad 41), .ref (ad 42), .ref (ad 43), .ref (ad 44), .ref (ad 45), .ref (ad 46), .ref (ad 47), .ref (ad 48), .ref (ad 49), .ref (ad 50), .int (iv 18), .ref (ad 51), .ref (ad 52), .ref (ad 53), .int (iv 19), .int (iv 20), .int (iv 21), .int (iv 22), .int (iv 23), .int (iv 24), .int (iv 25), .ref (ad 54), .int (iv 26), .ref (ad 55), .ref (ad 56), .ref (ad 57), .ref (ad 58), .ref (ad 59), .ref (ad 60), .ref (ad 61), .ref (ad 62), .int (iv 27), .ref (ad 63), .int (iv 28), .int (iv 29), .ref (ad 64), .ref (ad 65), .ref (ad 66)] : List Value).set 42 (.int z))) = MW ct ad (va_up iv 16 z) ia R := rfl
theorem sm_iv_17 (ct : Nat → ClassId) (ad : Nat → Nat) (iv : Nat → Int32) (ia : Nat → Nat → Int32) (R : va_W) (z : Int32) : (MW ct ad iv ia R).set 0 (ad 0, .inr (12, ([.ref (ad 1), .int (iv 0), .int (iv 1), .int (iv 2), .int (iv 3), .int (iv 4), .int (iv 5), .int (iv 6), .int (iv 7), .int (iv 8), .ref (ad 2), .ref (ad 3), .ref (ad 4), .ref (ad 5), .ref (ad 6), .ref (ad 7), .ref (ad 8), .ref (ad 9), .ref (ad 10), .ref (ad 11), .ref (ad 12), .ref (ad 13), .ref (ad 14), .ref (ad 15), .ref (ad 16), .ref (ad 17), .ref (ad 18), .ref (ad 19), .ref (ad 20), .ref (ad 21), .ref (ad 22), .ref (ad 23), .ref (ad 24), .ref (ad 25), .ref (ad 26), .int (iv 9), .int (iv 10), .int (iv 11), .int (iv 12), .int (iv 13), .int (iv 14), .int (iv 15), .int (iv 16), .int (iv 17), .ref (ad 27), .ref (ad 28), .ref (ad 29), .ref (ad 30), .ref (ad 31), .ref (ad 32), .ref (ad 33), .ref (ad 34), .ref (ad 35), .ref (ad 36), .ref (ad 37), .ref (ad 38), .ref (ad 39), .ref (ad 40), .ref (ad 41), .ref (ad 42), .ref (ad 43), .ref (ad 44), .ref (ad 45), .ref (ad 46), .ref (ad 47), .ref (ad 48), .ref (ad 49), .ref (ad 50), .int (iv 18), .ref (ad 51), .ref (ad 52), .ref (ad 53), .int (iv 19), .int (iv 20), .int (iv 21), .int (iv 22), .int (iv 23), .int (iv 24), .int (iv 25), .ref (ad 54), .int (iv 26), .ref (ad 55), .ref (ad 56), .ref (ad 57), .ref (ad 58), .ref (ad 59), .ref (ad 60), .ref (ad 61), .ref (ad 62), .int (iv 27), .ref (ad 63), .int (iv 28), .int (iv 29), .ref (ad 64), .ref (ad 65), .ref (ad 66)] : List Value).set 43 (.int z))) = MW ct ad (va_up iv 17 z) ia R := rfl
theorem sm_iv_18 (ct : Nat → ClassId) (ad : Nat → Nat) (iv : Nat → Int32) (ia : Nat → Nat → Int32) (R : va_W) (z : Int32) : (MW ct ad iv ia R).set 0 (ad 0, .inr (12, ([.ref (ad 1), .int (iv 0), .int (iv 1), .int (iv 2), .int (iv 3), .int (iv 4), .int (iv 5), .int (iv 6), .int (iv 7), .int (iv 8), .ref (ad 2), .ref (ad 3), .ref (ad 4), .ref (ad 5), .ref (ad 6), .ref (ad 7), .ref (ad 8), .ref (ad 9), .ref (ad 10), .ref (ad 11), .ref (ad 12), .ref (ad 13), .ref (ad 14), .ref (ad 15), .ref (ad 16), .ref (ad 17), .ref (ad 18), .ref (ad 19), .ref (ad 20), .ref (ad 21), .ref (ad 22), .ref (ad 23), .ref (ad 24), .ref (ad 25), .ref (ad 26), .int (iv 9), .int (iv 10), .int (iv 11), .int (iv 12), .int (iv 13), .int (iv 14), .int (iv 15), .int (iv 16), .int (iv 17), .ref (ad 27), .ref (ad 28), .ref (ad 29), .ref (ad 30), .ref (ad 31), .ref (ad 32), .ref (ad 33), .ref (ad 34), .ref (ad 35), .ref (ad 36), .ref (ad 37), .ref (ad 38), .ref (ad 39), .ref (ad 40), .ref (ad 41), .ref (ad 42), .ref (ad 43), .ref (ad 44), .ref (ad 45), .ref (ad 46), .ref (ad 47), .ref (ad 48), .ref (ad 49), .ref (ad 50), .int (iv 18), .ref (ad 51), .ref (ad 52), .ref (ad 53), .int (iv 19), .int (iv 20), .int (iv 21), .int (iv 22), .int (iv 23), .int (iv 24), .int (iv 25), .ref (ad 54), .int (iv 26), .ref (ad 55), .ref (ad 56), .ref (ad 57), .ref (ad 58), .ref (ad 59), .ref (ad 60), .ref (ad 61), .ref (ad 62), .int (iv 27), .ref (ad 63), .int (iv 28), .int (iv 29), .ref (ad 64), .ref (ad 65), .ref (ad 66)] : List Value).set 68 (.int z))) = MW ct ad (va_up iv 18 z) ia R := rfl
theorem sm_iv_19 (ct : Nat → ClassId) (ad : Nat → Nat) (iv : Nat → Int32) (ia : Nat → Nat → Int32) (R : va_W) (z : Int32) : (MW ct ad iv ia R).set 0 (ad 0, .inr (12, ([.ref (ad 1), .int (iv 0), .int (iv 1), .int (iv 2), .int (iv 3), .int (iv 4), .int (iv 5), .int (iv 6), .int (iv 7), .int (iv 8), .ref (ad 2), .ref (ad 3), .ref (ad 4), .ref (ad 5), .ref (ad 6), .ref (ad 7), .ref (ad 8), .ref (ad 9), .ref (ad 10), .ref (ad 11), .ref (ad 12), .ref (ad 13), .ref (ad 14), .ref (ad 15), .ref (ad 16), .ref (ad 17), .ref (ad 18), .ref (ad 19), .ref (ad 20), .ref (ad 21), .ref (ad 22), .ref (ad 23), .ref (ad 24), .ref (ad 25), .ref (ad 26), .int (iv 9), .int (iv 10), .int (iv 11), .int (iv 12), .int (iv 13), .int (iv 14), .int (iv 15), .int (iv 16), .int (iv 17), .ref (ad 27), .ref (ad 28), .ref (ad 29), .ref (ad 30), .ref (ad 31), .ref (ad 32), .ref (ad 33), .ref (ad 34), .ref (ad 35), .ref (ad 36), .ref (ad 37), .ref (ad 38), .ref (ad 39), .ref (ad 40), .ref (ad 41), .ref (ad 42), .ref (ad 43), .ref (ad 44), .ref (ad 45), .ref (ad 46), .ref (ad 47), .ref (ad 48), .ref (ad 49), .ref (ad 50), .int (iv 18), .ref (ad 51), .ref (ad 52), .ref (ad 53), .int (iv 19), .int (iv 20), .int (iv 21), .int (iv 22), .int (iv 23), .int (iv 24), .int (iv 25), .ref (ad 54), .int (iv 26), .ref (ad 55), .ref (ad 56), .ref (ad 57), .ref (ad 58), .ref (ad 59), .ref (ad 60), .ref (ad 61), .ref (ad 62), .int (iv 27), .ref (ad 63), .int (iv 28), .int (iv 29), .ref (ad 64), .ref (ad 65), .ref (ad 66)] : List Value).set 72 (.int z))) = MW ct ad (va_up iv 19 z) ia R := rfl
theorem sm_iv_20 (ct : Nat → ClassId) (ad : Nat → Nat) (iv : Nat → Int32) (ia : Nat → Nat → Int32) (R : va_W) (z : Int32) : (MW ct ad iv ia R).set 0 (ad 0, .inr (12, ([.ref (ad 1), .int (iv 0), .int (iv 1), .int (iv 2), .int (iv 3), .int (iv 4), .int (iv 5), .int (iv 6), .int (iv 7), .int (iv 8), .ref (ad 2), .ref (ad 3), .ref (ad 4), .ref (ad 5), .ref (ad 6), .ref (ad 7), .ref (ad 8), .ref (ad 9), .ref (ad 10), .ref (ad 11), .ref (ad 12), .ref (ad 13), .ref (ad 14), .ref (ad 15), .ref (ad 16), .ref (ad 17), .ref (ad 18), .ref (ad 19), .ref (ad 20), .ref (ad 21), .ref (ad 22), .ref (ad 23), .ref (ad 24), .ref (ad 25), .ref (ad 26), .int (iv 9), .int (iv 10), .int (iv 11), .int (iv 12), .int (iv 13), .int (iv 14), .int (iv 15), .int (iv 16), .int (iv 17), .ref (ad 27), .ref (ad 28), .ref (ad 29), .ref (ad 30), .ref (ad 31), .ref (ad 32), .ref (ad 33), .ref (ad 34), .ref (ad 35), .ref (ad 36), .ref (ad 37), .ref (ad 38), .ref (ad 39), .ref (ad 40), .ref (ad 41), .ref (ad 42), .ref (ad 43), .ref (ad 44), .ref (ad 45), .ref (ad 46), .ref (ad 47), .ref (ad 48), .ref (ad 49), .ref (ad 50), .int (iv 18), .ref (ad 51), .ref (ad 52), .ref (ad 53), .int (iv 19), .int (iv 20), .int (iv 21), .int (iv 22), .int (iv 23), .int (iv 24), .int (iv 25), .ref (ad 54), .int (iv 26), .ref (ad 55), .ref (ad 56), .ref (ad 57), .ref (ad 58), .ref (ad 59), .ref (ad 60), .ref (ad 61), .ref (ad 62), .int (iv 27), .ref (ad 63), .int (iv 28), .int (iv 29), .ref (ad 64), .ref (ad 65), .ref (ad 66)] : List Value).set 73 (.int z))) = MW ct ad (va_up iv 20 z) ia R := rfl
theorem sm_iv_21 (ct : Nat → ClassId) (ad : Nat → Nat) (iv : Nat → Int32) (ia : Nat → Nat → Int32) (R : va_W) (z : Int32) : (MW ct ad iv ia R).set 0 (ad 0, .inr (12, ([.ref (ad 1), .int (iv 0), .int (iv 1), .int (iv 2), .int (iv 3), .int (iv 4), .int (iv 5), .int (iv 6), .int (iv 7), .int (iv 8), .ref (ad 2), .ref (ad 3), .ref (ad 4), .ref (ad 5), .ref (ad 6), .ref (ad 7), .ref (ad 8), .ref (ad 9), .ref (ad 10), .ref (ad 11), .ref (ad 12), .ref (ad 13), .ref (ad 14), .ref (ad 15), .ref (ad 16), .ref (ad 17), .ref (ad 18), .ref (ad 19), .ref (ad 20), .ref (ad 21), .ref (ad 22), .ref (ad 23), .ref (ad 24), .ref (ad 25), .ref (ad 26), .int (iv 9), .int (iv 10), .int (iv 11), .int (iv 12), .int (iv 13), .int (iv 14), .int (iv 15), .int (iv 16), .int (iv 17), .ref (ad 27), .ref (ad 28), .ref (ad 29), .ref (ad 30), .ref (ad 31), .ref (ad 32), .ref (ad 33), .ref (ad 34), .ref (ad 35), .ref (ad 36), .ref (ad 37), .ref (ad 38), .ref (ad 39), .ref (ad 40), .ref (ad 41), .ref (ad 42), .ref (ad 43), .ref (ad 44), .ref (ad 45), .ref (ad 46), .ref (ad 47), .ref (ad 48), .ref (ad 49), .ref (ad 50), .int (iv 18), .ref (ad 51), .ref (ad 52), .ref (ad 53), .int (iv 19), .int (iv 20), .int (iv 21), .int (iv 22), .int (iv 23), .int (iv 24), .int (iv 25), .ref (ad 54), .int (iv 26), .ref (ad 55), .ref (ad 56), .ref (ad 57), .ref (ad 58), .ref (ad 59), .ref (ad 60), .ref (ad 61), .ref (ad 62), .int (iv 27), .ref (ad 63), .int (iv 28), .int (iv 29), .ref (ad 64), .ref (ad 65), .ref (ad 66)] : List Value).set 74 (.int z))) = MW ct ad (va_up iv 21 z) ia R := rfl
theorem sm_iv_22 (ct : Nat → ClassId) (ad : Nat → Nat) (iv : Nat → Int32) (ia : Nat → Nat → Int32) (R : va_W) (z : Int32) : (MW ct ad iv ia R).set 0 (ad 0, .inr (12, ([.ref (ad 1), .int (iv 0), .int (iv 1), .int (iv 2), .int (iv 3), .int (iv 4), .int (iv 5), .int (iv 6), .int (iv 7), .int (iv 8), .ref (ad 2), .ref (ad 3), .ref (ad 4), .ref (ad 5), .ref (ad 6), .ref (ad 7), .ref (ad 8), .ref (ad 9), .ref (ad 10), .ref (ad 11), .ref (ad 12), .ref (ad 13), .ref (ad 14), .ref (ad 15), .ref (ad 16), .ref (ad 17), .ref (ad 18), .ref (ad 19), .ref (ad 20), .ref (ad 21), .ref (ad 22), .ref (ad 23), .ref (ad 24), .ref (ad 25), .ref (ad 26), .int (iv 9), .int (iv 10), .int (iv 11), .int (iv 12), .int (iv 13), .int (iv 14), .int (iv 15), .int (iv 16), .int (iv 17), .ref (ad 27), .ref (ad 28), .ref (ad 29), .ref (ad 30), .ref (ad 31), .ref (ad 32), .ref (ad 33), .ref (ad 34), .ref (ad 35), .ref (ad 36), .ref (ad 37), .ref (ad 38), .ref (ad 39), .ref (ad 40), .ref (ad 41), .ref (ad 42), .ref (ad 43), .ref (ad 44), .ref (ad 45), .ref (ad 46), .ref (ad 47), .ref (ad 48), .ref (ad 49), .ref (ad 50), .int (iv 18), .ref (ad 51), .ref (ad 52), .ref (ad 53), .int (iv 19), .int (iv 20), .int (iv 21), .int (iv 22), .int (iv 23), .int (iv 24), .int (iv 25), .ref (ad 54), .int (iv 26), .ref (ad 55), .ref (ad 56), .ref (ad 57), .ref (ad 58), .ref (ad 59), .ref (ad 60), .ref (ad 61), .ref (ad 62), .int (iv 27), .ref (ad 63), .int (iv 28), .int (iv 29), .ref (ad 64), .ref (ad 65), .ref (ad 66)] : List Value).set 75 (.int z))) = MW ct ad (va_up iv 22 z) ia R := rfl
theorem sm_iv_23 (ct : Nat → ClassId) (ad : Nat → Nat) (iv : Nat → Int32) (ia : Nat → Nat → Int32) (R : va_W) (z : Int32) : (MW ct ad iv ia R).set 0 (ad 0, .inr (12, ([.ref (ad 1), .int (iv 0), .int (iv 1), .int (iv 2), .int (iv 3), .int (iv 4), .int (iv 5), .int (iv 6), .int (iv 7), .int (iv 8), .ref (ad 2), .ref (ad 3), .ref (ad 4), .ref (ad 5), .ref (ad 6), .ref (ad 7), .ref (ad 8), .ref (ad 9), .ref (ad 10), .ref (ad 11), .ref (ad 12), .ref (ad 13), .ref (ad 14), .ref (ad 15), .ref (ad 16), .ref (ad 17), .ref (ad 18), .ref (ad 19), .ref (ad 20), .ref (ad 21), .ref (ad 22), .ref (ad 23), .ref (ad 24), .ref (ad 25), .ref (ad 26), .int (iv 9), .int (iv 10), .int (iv 11), .int (iv 12), .int (iv 13), .int (iv 14), .int (iv 15), .int (iv 16), .int (iv 17), .ref (ad 27), .ref (ad 28), .ref (ad 29), .ref (ad 30), .ref (ad 31), .ref (ad 32), .ref (ad 33), .ref (ad 34), .ref (ad 35), .ref (ad 36), .ref (ad 37), .ref (ad 38), .ref (ad 39), .ref (ad 40), .ref (ad 41), .ref (ad 42), .ref (ad 43), .ref (ad 44), .ref (ad 45), .ref (ad 46), .ref (ad 47), .ref (ad 48), .ref (ad 49), .ref (ad 50), .int (iv 18), .ref (ad 51), .ref (ad 52), .ref (ad 53), .int (iv 19), .int (iv 20), .int (iv 21), .int (iv 22), .int (iv 23), .int (iv 24), .int (iv 25), .ref (ad 54), .int (iv 26), .ref (ad 55), .ref (ad 56), .ref (ad 57), .ref (ad 58), .ref (ad 59), .ref (ad 60), .ref (ad 61), .ref (ad 62), .int (iv 27), .ref (ad 63), .int (iv 28), .int (iv 29), .ref (ad 64), .ref (ad 65), .ref (ad 66)] : List Value).set 76 (.int z))) = MW ct ad (va_up iv 23 z) ia R := rfl
theorem sm_iv_24 (ct : Nat → ClassId) (ad : Nat → Nat) (iv : Nat → Int32) (ia : Nat → Nat → Int32) (R : va_W) (z : Int32) : (MW ct ad iv ia R).set 0 (ad 0, .inr (12, ([.ref (ad 1), .int (iv 0), .int (iv 1), .int (iv 2), .int (iv 3), .int (iv 4), .int (iv 5), .int (iv 6), .int (iv 7), .int (iv 8), .ref (ad 2), .ref (ad 3), .ref (ad 4), .ref (ad 5), .ref (ad 6), .ref (ad 7), .ref (ad 8), .ref (ad 9), .ref (ad 10), .ref (ad 11), .ref (ad 12), .ref (ad 13), .ref (ad 14), .ref (ad 15), .ref (ad 16), .ref (ad 17), .ref (ad 18), .ref (ad 19), .ref (ad 20), .ref (ad 21), .ref (ad 22), .ref (ad 23), .ref (ad 24), .ref (ad 25), .ref (ad 26), .int (iv 9), .int (iv 10), .int (iv 11), .int (iv 12), .int (iv 13), .int (iv 14), .int (iv 15), .int (iv 16), .int (iv 17), .ref (ad 27), .ref (ad 28), .ref (ad 29), .ref (ad 30), .ref (ad 31), .ref (ad 32), .ref (ad 33), .ref (ad 34), .ref (ad 35), .ref (ad 36), .ref (ad 37), .ref (ad 38), .ref (ad 39), .ref (ad 40), .ref (ad 41), .ref (ad 42), .ref (ad 43), .ref (ad 44), .ref (ad 45), .ref (ad 46), .ref (ad 47), .ref (ad 48), .ref (ad 49), .ref (ad 50), .int (iv 18), .ref (ad 51), .ref (ad 52), .ref (ad 53), .int (iv 19), .int (iv 20), .int (iv 21), .int (iv 22), .int (iv 23), .int (iv 24), .int (iv 25), .ref (ad 54), .int (iv 26), .ref (ad 55), .ref (ad 56), .ref (ad 57), .ref (ad 58), .ref (ad 59), .ref (ad 60), .ref (ad 61), .ref (ad 62), .int (iv 27), .ref (ad 63), .int (iv 28), .int (iv 29), .ref (ad 64), .ref (ad 65), .ref (ad 66)] : List Value).set 77 (.int z))) = MW ct ad (va_up iv 24 z) ia R := rfl
theorem sm_iv_25 (ct : Nat → ClassId) (ad : Nat → Nat) (iv : Nat → Int32) (ia : Nat → Nat → Int32) (R : va_W) (z : Int32) : (MW ct ad iv ia R).set 0 (ad 0, .inr (12, ([.ref (ad 1), .int (iv 0), .int (iv 1), .int (iv 2), .int (iv 3), .int (iv 4), .int (iv 5), .int (iv 6), .int (iv 7), .int (iv 8), .ref (ad 2), .ref (ad 3), .ref (ad 4), .ref (ad 5), .ref (ad 6), .ref (ad 7), .ref (ad 8), .ref (ad 9), .ref (ad 10), .ref (ad 11), .ref (ad 12), .ref (ad 13), .ref (ad 14), .ref (ad 15), .ref (ad 16), .ref (ad 17), .ref (ad 18), .ref (ad 19), .ref (ad 20), .ref (ad 21), .ref (ad 22), .ref (ad 23), .ref (ad 24), .ref (ad 25), .ref (ad 26), .int (iv 9), .int (iv 10), .int (iv 11), .int (iv 12), .int (iv 13), .int (iv 14), .int (iv 15), .int (iv 16), .int (iv 17), .ref (ad 27), .ref (ad 28), .ref (ad 29), .ref (ad 30), .ref (ad 31), .ref (ad 32), .ref (ad 33), .ref (ad 34), .ref (ad 35), .ref (ad 36), .ref (ad 37), .ref (ad 38), .ref (ad 39), .ref (ad 40), .ref (ad 41), .ref (ad 42), .ref (ad 43), .ref (ad 44), .ref (ad 45), .ref (ad 46), .ref (ad 47), .ref (ad 48), .ref (ad 49), .ref (ad 50), .int (iv 18), .ref (ad 51), .ref (ad 52), .ref (ad 53), .int (iv 19), .int (iv 20), .int (iv 21), .int (iv 22), .int (iv 23), .int (iv 24), .int (iv 25), .ref (ad 54), .int (iv 26), .ref (ad 55), .ref (ad 56), .ref (ad 57), .ref (ad 58), .ref (ad 59), .ref (ad 60), .ref (ad 61), .ref (ad 62), .int (iv 27), .ref (ad 63), .int (iv 28), .int (iv 29), .ref (ad 64), .ref (ad 65), .ref (ad 66)] : List Value).set 78 (.int z))) = MW ct ad (va_up iv 25 z) ia R := rfl
theorem sm_iv_26 (ct : Nat → ClassId) (ad : Nat → Nat) (iv : Nat → Int32) (ia : Nat → Nat → Int32) (R : va_W) (z : Int32) : (MW ct ad iv ia R).set 0 (ad 0, .inr (12, ([.ref (ad 1), .int (iv 0), .int (iv 1), .int (iv 2), .int (iv 3), .int (iv 4), .int (iv 5), .int (iv 6), .int (iv 7), .int (iv 8), .ref (ad 2), .ref (ad 3), .ref (ad 4), .ref (ad 5), .ref (ad 6), .ref (ad 7), .ref (ad 8), .ref (ad 9), .ref (ad 10), .ref (ad 11), .ref (ad 12), .ref (ad 13), .ref (ad 14), .ref (ad 15), .ref (ad 16), .ref (ad 17), .ref (ad 18), .ref (ad 19), .ref (ad 20), .ref (ad 21), .ref (ad 22), .ref (ad 23), .ref (ad 24), .ref (ad 25), .ref (ad 26), .int (iv 9), .int (iv 10), .int (iv 11), .int (iv 12), .int (iv 13), .int (iv 14), .int (iv 15), .int (iv 16), .int (iv 17), .ref (ad 27), .ref (ad 28), .ref (ad 29), .ref (ad 30), .ref (ad 31), .ref (ad 32), .ref (ad 33), .ref (ad 34), .ref (ad 35), .ref (ad 36), .ref (ad 37), .ref (ad 38), .ref (ad 39), .ref (ad 40), .ref (ad 41), .ref (ad 42), .ref (ad 43), .ref (ad 44), .ref (ad 45), .ref (ad 46), .ref (ad 47), .ref (ad 48), .ref (ad 49), .ref (ad 50), .int (iv 18), .ref (ad 51), .ref (ad 52), .ref (ad 53), .int (iv 19), .int (iv 20), .int (iv 21), .int (iv 22), .int (iv 23), .int (iv 24), .int (iv 25), .ref (ad 54), .int (iv 26), .ref (ad 55), .ref (ad 56), .ref (ad 57), .ref (ad 58), .ref (ad 59), .ref (ad 60), .ref (ad 61), .ref (ad 62), .int (iv 27), .ref (ad 63), .int (iv 28), .int (iv 29), .ref (ad 64), .ref (ad 65), .ref (ad 66)] : List Value).set 80 (.int z))) = MW ct ad (va_up iv 26 z) ia R := rfl
theorem sm_iv_27 (ct : Nat → ClassId) (ad : Nat → Nat) (iv : Nat → Int32) (ia : Nat → Nat → Int32) (R : va_W) (z : Int32) : (MW ct ad iv ia R).set 0 (ad 0, .inr (12, ([.ref (ad 1), .int (iv 0), .int (iv 1), .int (iv 2), .int (iv 3), .int (iv 4), .int (iv 5), .int (iv 6), .int (iv 7), .int (iv 8), .ref (ad 2), .ref (ad 3), .ref (ad 4), .ref (ad 5), .ref (ad 6), .ref (ad 7), .ref (ad 8), .ref (ad 9), .ref (ad 10), .ref (ad 11), .ref (ad 12), .ref (ad 13), .ref (ad 14), .ref (ad 15), .ref (ad 16), .ref (ad 17), .ref (ad 18), .ref (ad 19), .ref (ad 20), .ref (ad 21), .ref (ad 22), .ref (ad 23), .ref (ad 24), .ref (ad 25), .ref (ad 26), .int (iv 9), .int (iv 10), .int (iv 11), .int (iv 12), .int (iv 13), .int (iv 14), .int (iv 15), .int (iv 16), .int (iv 17), .ref (ad 27), .ref (ad 28), .ref (ad 29), .ref (ad 30), .ref (ad 31), .ref (ad 32), .ref (ad 33), .ref (ad 34), .ref (ad 35), .ref (ad 36), .ref (ad 37), .ref (ad 38), .ref (ad 39), .ref (ad 40), .ref (ad 41), .ref (ad 42), .ref (ad 43), .ref (ad 44), .ref (ad 45), .ref (ad 46), .ref (ad 47), .ref (ad 48), .ref (ad 49), .ref (ad 50), .int (iv 18), .ref (ad 51), .ref (ad 52), .ref (ad 53), .int (iv 19), .int (iv 20), .int (iv 21), .int (iv 22), .int (iv 23), .int (iv 24), .int (iv 25), .ref (ad 54), .int (iv 26), .ref (ad 55), .ref (ad 56), .ref (ad 57), .ref (ad 58), .ref (ad 59), .ref (ad 60), .ref (ad 61), .ref (ad 62), .int (iv 27), .ref (ad 63), .int (iv 28), .int (iv 29), .ref (ad 64), .ref (ad 65), .ref (ad 66)] : List Value).set 89 (.int z))) = MW ct ad (va_up iv 27 z) ia R := rfl
theorem sm_iv_28 (ct : Nat → ClassId) (ad : Nat → Nat) (iv : Nat → Int32) (ia : Nat → Nat → Int32) (R : va_W) (z : Int32) : (MW ct ad iv ia R).set 0 (ad 0, .inr (12, ([.ref (ad 1), .int (iv 0), .int (iv 1), .int (iv 2), .int (iv 3), .int (iv 4), .int (iv 5), .int (iv 6), .int (iv 7), .int (iv 8), .ref (ad 2), .ref (ad 3), .ref (ad 4), .ref (ad 5), .ref (ad 6), .ref (ad 7), .ref (ad 8), .ref (ad 9), .ref (ad 10), .ref (ad 11), .ref (ad 12), .ref (ad 13), .ref (ad 14), .ref (ad 15), .ref (ad 16), .ref (ad 17), .ref (ad 18), .ref (ad 19), .ref (ad 20), .ref (ad 21), .ref (ad 22), .ref (ad 23), .ref (ad 24), .ref (ad 25), .ref (ad 26), .int (iv 9), .int (iv 10), .int (iv 11), .int (iv 12), .int (iv 13), .int (iv 14), .int (iv 15), .int (iv 16), .int (iv 17), .ref (ad 27), .ref (ad 28), .ref (ad 29), .ref (ad 30), .ref (ad 31), .ref (ad 32), .ref (ad 33), .ref (ad 34), .ref (ad 35), .ref (ad 36), .ref (ad 37), .ref (ad 38), .ref (ad 39), .ref (ad 40), .ref (ad 41), .ref (ad 42), .ref (ad 43), .ref (ad 44), .ref (ad 45), .ref (ad 46), .ref (ad 47), .ref (ad 48), .ref (ad 49), .ref (ad 50), .int (iv 18), .ref (ad 51), .ref (ad 52), .ref (ad 53), .int (iv 19), .int (iv 20), .int (iv 21), .int (iv 22), .int (iv 23), .int (iv 24), .int (iv 25), .ref (ad 54), .int (iv 26), .ref (ad 55), .ref (ad 56), .ref (ad 57), .ref (ad 58), .ref (ad 59), .ref (ad 60), .ref (ad 61), .ref (ad 62), .int (iv 27), .ref (ad 63), .int (iv 28), .int (iv 29), .ref (ad 64), .ref (ad 65), .ref (ad 66)] : List Value).set 91 (.int z))) = MW ct ad (va_up iv 28 z) ia R := rfl
theorem sm_iv_29 (ct : Nat → ClassId) (ad : Nat → Nat) (iv : Nat → Int32) (ia : Nat → Nat → Int32) (R : va_W) (z : Int32) : (MW ct ad iv ia R).set 0 (ad 0, .inr (12, ([.ref (ad 1), .int (iv 0), .int (iv 1), .int (iv 2), .int (iv 3), .int (iv 4), .int (iv 5), .int (iv 6), .int (iv 7), .int (iv 8), .ref (ad 2), .ref (ad 3), .ref (ad 4), .ref (ad 5), .ref (ad 6), .ref (ad 7), .ref (ad 8), .ref (ad 9), .ref (ad 10), .ref (ad 11), .ref (ad 12), .ref (ad 13), .ref (ad 14), .ref (ad 15), .ref (ad 16), .ref (ad 17), .ref (ad 18), .ref (ad 19), .ref (ad 20), .ref (ad 21), .ref (ad 22), .ref (ad 23), .ref (ad 24), .ref (ad 25), .ref (ad 26), .int (iv 9), .int (iv 10), .int (iv 11), .int (iv 12), .int (iv 13), .int (iv 14), .int (iv 15), .int (iv 16), .int (iv 17), .ref (ad 27), .ref (ad 28), .ref (ad 29), .ref (ad 30), .ref (ad 31), .ref (ad 32), .ref (ad 33), .ref (ad 34), .ref (ad 35), .ref (ad 36), .ref (ad 37), .ref (ad 38), .ref (ad 39), .ref (ad 40), .ref (ad 41), .ref (ad 42), .ref (ad 43), .ref (ad 44), .ref (ad 45), .ref (ad 46), .ref (ad 47), .ref (ad 48), .ref (ad 49), .ref (ad 50), .int (iv 18), .ref (ad 51), .ref (ad 52), .ref (ad 53), .int (iv 19), .int (iv 20), .int (iv 21), .int (iv 22), .int (iv 23), .int (iv 24), .int (iv 25), .ref (ad 54), .int (iv 26), .ref (ad 55), .ref (ad 56), .ref (ad 57), .ref (ad 58), .ref (ad 59), .ref (ad 60), .ref (ad 61), .ref (ad 62), .int (iv 27), .ref (ad 63), .int (iv 28), .int (iv 29), .ref (ad 64), .ref (ad 65), .ref (ad 66)] : List Value).set 92 (.int z))) = MW ct ad (va_up iv 29 z) ia R := rfl
theorem sm_ia_1 (ct : Nat → ClassId) (ad : Nat → Nat) (iv : Nat → Int32) (ia : Nat → Nat → Int32) (R : va_W) (g : Nat → Int32) : (MW ct ad iv ia R).set 1 (ad 1, .inl (ct 1, 200, .inl g)) = MW ct ad iv (va_up ia 1 g) R := rfl
theorem sm_ia_2 (ct : Nat → ClassId) (ad : Nat → Nat) (iv : Nat → Int32) (ia : Nat → Nat → Int32) (R : va_W) (g : Nat → Int32) : (MW ct ad iv ia R).set 2 (ad 2, .inl (ct 0, 60, .inl g)) = MW ct ad iv (va_up ia 2 g) R := rfl
theorem sm_ia_3 (ct : Nat → ClassId) (ad : Nat → Nat) (iv : Nat → Int32) (ia : Nat → Nat → Int32) (R : va_W) (g : Nat → Int32) : (MW ct ad iv ia R).set 3 (ad 3, .inl (ct 0, 60, .inl g)) = MW ct ad iv (va_up ia 3 g) R := rfl
theorem sm_ia_4 (ct : Nat → ClassId) (ad : Nat → Nat) (iv : Nat → Int32) (ia : Nat → Nat → Int32) (R : va_W) (g : Nat → Int32) : (MW ct ad iv ia R).set 4 (ad 4, .inl (ct 0, 180, .inl g)) = MW ct ad iv (va_up ia 4 g) R := rfl
theorem sm_ia_5 (ct : Nat → ClassId) (ad : Nat → Nat) (iv : Nat → Int32) (ia : Nat → Nat → Int32) (R : va_W) (g : Nat → Int32) : (MW ct ad iv ia R).set 5 (ad 5, .inl (ct 0, 1440, .inl g)) = MW ct ad iv (va_up ia 5 g) R := rfl
theorem sm_ia_6 (ct : Nat → ClassId) (ad : Nat → Nat) (iv : Nat → Int32) (ia : Nat → Nat → Int32) (R : va_W) (g : Nat → Int32) : (MW ct ad iv ia R).set 6 (ad 6, .inl (ct 0, 320, .inl g)) = MW ct ad iv (va_up ia 6 g) R := rfl
theorem sm_ia_7 (ct : Nat → ClassId) (ad : Nat → Nat) (iv : Nat → Int32) (ia : Nat → Nat → Int32) (R : va_W) (g : Nat → Int32) : (MW ct ad iv ia R).set 7 (ad 7, .inl (ct 1, 3840, .inl g)) = MW ct ad iv (va_up ia 7 g) R := rfl
theorem sm_ia_8 (ct : Nat → ClassId) (ad : Nat → Nat) (iv : Nat → Int32) (ia : Nat → Nat → Int32) (R : va_W) (g : Nat → Int32) : (MW ct ad iv ia R).set 8 (ad 8, .inl (ct 0, 6, .inl g)) = MW ct ad iv (va_up ia 8 g) R := rfl
theorem sm_ia_9 (ct : Nat → ClassId) (ad : Nat → Nat) (iv : Nat → Int32) (ia : Nat → Nat → Int32) (R : va_W) (g : Nat → Int32) : (MW ct ad iv ia R).set 9 (ad 9, .inl (ct 0, 6, .inl g)) = MW ct ad iv (va_up ia 9 g) R := rfl
theorem sm_ia_10 (ct : Nat → ClassId) (ad : Nat → Nat) (iv : Nat → Int32) (ia : Nat → Nat → Int32) (R : va_W) (g : Nat → Int32) : (MW ct ad iv ia R).set 10 (ad 10, .inl (ct 0, 24, .inl g)) = MW ct ad iv (va_up ia 10 g) R := rfl
theorem sm_ia_11 (ct : Nat → ClassId) (ad : Nat → Nat) (iv : Nat → Int32) (ia : Nat → Nat → Int32) (R : va_W) (g : Nat → Int32) : (MW ct ad iv ia R).set 11 (ad 11, .inl (ct 3, 24, .inl g)) = MW ct ad iv (va_up ia 11 g) R := rfl
theorem sm_ia_12 (ct : Nat → ClassId) (ad : Nat → Nat) (iv : Nat → Int32) (ia : Nat → Nat → Int32) (R : va_W) (g : Nat → Int32) : (MW ct ad iv ia R).set 12 (ad 12, .inl (ct 3, 24, .inl g)) = MW ct ad iv (va_up ia 12 g) R := rfl
theorem sm_ia_13 (ct : Nat → ClassId) (ad : Nat → Nat) (iv : Nat → Int32) (ia : Nat → Nat → Int32) (R : va_W) (g : Nat → Int32) : (MW ct ad iv ia R).set 13 (ad 13, .inl (ct 1, 960, .inl g)) = MW ct ad iv (va_up ia 13 g) R := rfl
theorem sm_ia_14 (ct : Nat → ClassId) (ad : Nat → Nat) (iv : Nat → Int32) (ia : Nat → Nat → Int32) (R : va_W) (g : Nat → Int32) : (MW ct ad iv ia R).set 14 (ad 14, .inl (ct 0, 80, .inl g)) = MW ct ad iv (va_up ia 14 g) R := rfl
theorem sm_ia_15 (ct : Nat → ClassId) (ad : Nat → Nat) (iv : Nat → Int32) (ia : Nat → Nat → Int32) (R : va_W) (g : Nat → Int32) : (MW ct ad iv ia R).set 15 (ad 15, .inl (ct 0, 20, .inl g)) = MW ct ad iv (va_up ia 15 g) R := rfl
theorem sm_ia_16 (ct : Nat → ClassId) (ad : Nat → Nat) (iv : Nat → Int32) (ia : Nat → Nat → Int32) (R : va_W) (g : Nat → Int32) : (MW ct ad iv ia R).set 16 (ad 16, .inl (ct 0, 20, .inl g)) = MW ct ad iv (va_up ia 16 g) R := rfl
theorem sm_ia_17 (ct : Nat → ClassId) (ad : Nat → Nat) (iv : Nat → Int32) (ia : Nat → Nat → Int32) (R : va_W) (g : Nat → Int32) : (MW ct ad iv ia R).set 17 (ad 17, .inl (ct 0, 20, .inl g)) = MW ct ad iv (va_up ia 17 g) R := rfl
theorem sm_ia_18 (ct : Nat → ClassId) (ad : Nat → Nat) (iv : Nat → Int32) (ia : Nat → Nat → Int32) (R : va_W) (g : Nat → Int32) : (MW ct ad iv ia R).set 18 (ad 18, .inl (ct 0, 20, .inl g)) = MW ct ad iv (va_up ia 18 g) R := rfl
theorem sm_ia_19 (ct : Nat → ClassId) (ad : Nat → Nat) (iv : Nat → Int32) (ia : Nat → Nat → Int32) (R : va_W) (g : Nat → Int32) : (MW ct ad iv ia R).set 19 (ad 19, .inl (ct 0, 320, .inl g)) = MW ct ad iv (va_up ia 19 g) R := rfl
theorem sm_ia_20 (ct : Nat → ClassId) (ad : Nat → Nat) (iv : Nat → Int32) (ia : Nat → Nat → Int32) (R : va_W) (g : Nat → Int32) : (MW ct ad iv ia R).set 20 (ad 20, .inl (ct 0, 320, .inl g)) = MW ct ad iv (va_up ia 20 g) R := rfl
theorem sm_ia_21 (ct : Nat → ClassId) (ad : Nat → Nat) (iv : Nat → Int32) (ia : Nat → Nat → Int32) (R : va_W) (g : Nat → Int32) : (MW ct ad iv ia R).set 21 (ad 21, .inl (ct 0, 320, .inl g)) = MW ct ad iv (va_up ia 21 g) R := rfl
theorem sm_ia_22 (ct : Nat → ClassId) (ad : Nat → Nat) (iv : Nat → Int32) (ia : Nat → Nat → Int32) (R : va_W) (g : Nat → Int32) : (MW ct ad iv ia R).set 22 (ad 22, .inl (ct 0, 320, .inl g)) = MW ct ad iv (va_up ia 22 g) R := rfl
theorem sm_ia_23 (ct : Nat → ClassId) (ad : Nat → Nat) (iv : Nat → Int32) (ia : Nat → Nat → Int32) (R : va_W) (g : Nat → Int32) : (MW ct ad iv ia R).set 23 (ad 23, .inl (ct 0, 320, .inl g)) = MW ct ad iv (va_up ia 23 g) R := rfl
theorem sm_ia_24 (ct : Nat → ClassId) (ad : Nat → Nat) (iv : Nat → Int32) (ia : Nat → Nat → Int32) (R : va_W) (g : Nat → Int32) : (MW ct ad iv ia R).set 24 (ad 24, .inl (ct 0, 320, .inl g)) = MW ct ad iv (va_up ia 24 g) R := rfl
theorem sm_ia_25 (ct : Nat → ClassId) (ad : Nat → Nat) (iv : Nat → Int32) (ia : Nat → Nat → Int32) (R : va_W) (g : Nat → Int32) : (MW ct ad iv ia R).set 25 (ad 25, .inl (ct 0, 3200, .inl g)) = MW ct ad iv (va_up ia 25 g) R := rfl
theorem sm_ia_26 (ct : Nat → ClassId) (ad : Nat → Nat) (iv : Nat → Int32) (ia : Nat → Nat → Int32) (R : va_W) (g : Nat → Int32) : (MW ct ad iv ia R).set 26 (ad 26, .inl (ct 0, 3200, .inl g)) = MW ct ad iv (va_up ia 26 g) R := rfl
theorem sm_ia_27 (ct : Nat → ClassId) (ad : Nat → Nat) (iv : Nat → Int32) (ia : Nat → Nat → Int32) (R : va_W) (g : Nat → Int32) : (MW ct ad iv ia R).set 27 (ad 27, .inl (ct 0, 200, .inl g)) = MW ct ad iv (va_up ia 27 g) R := rfl
theorem sm_ia_28 (ct : Nat → ClassId) (ad : Nat → Nat) (iv : Nat → Int32) (ia : Nat → Nat → Int32) (R : va_W) (g : Nat → Int32) : (MW ct ad iv ia R).set 28 (ad 28, .inl (ct 0, 200, .inl g)) = MW ct ad iv (va_up ia 28 g) R := rfl
theorem sm_ia_29 (ct : Nat → ClassId) (ad : Nat → Nat) (iv : Nat → Int32) (ia : Nat → Nat → Int32) (R : va_W) (g : Nat → Int32) : (MW ct ad iv ia R).set 29 (ad 29, .inl (ct 3, 200, .inl g)) = MW ct ad iv (va_up ia 29 g) R := rfl
theorem sm_ia_30 (ct : Nat → ClassId) (ad : Nat → Nat) (iv : Nat → Int32) (ia : Nat → Nat → Int32) (R : va_W) (g : Nat → Int32) : (MW ct ad iv ia R).set 30 (ad 30, .inl (ct 0, 16, .inl g)) = MW ct ad iv (va_up ia 30 g) R := rfl
theorem sm_ia_31 (ct : Nat → ClassId) (ad : Nat → Nat) (iv : Nat → Int32) (ia : Nat → Nat → Int32) (R : va_W) (g : Nat → Int32) : (MW ct ad iv ia R).set 31 (ad 31, .inl (ct 0, 16, .inl g)) = MW ct ad iv (va_up ia 31 g) R := rfl
theorem sm_ia_32 (ct : Nat → ClassId) (ad : Nat → Nat) (iv : Nat → Int32) (ia : Nat → Nat → Int32) (R : va_W) (g : Nat → Int32) : (MW ct ad iv ia R).set 32 (ad 32, .inl (ct 0, 400, .inl g)) = MW ct ad iv (va_up ia 32 g) R := rfl
theorem sm_ia_33 (ct : Nat → ClassId) (ad : Nat → Nat) (iv : Nat → Int32) (ia : Nat → Nat → Int32) (R : va_W) (g : Nat → Int32) : (MW ct ad iv ia R).set 33 (ad 33, .inl (ct 0, 200, .inl g)) = MW ct ad iv (va_up ia 33 g) R := rfl
theorem sm_ia_34 (ct : Nat → ClassId) (ad : Nat → Nat) (iv : Nat → Int32) (ia : Nat → Nat → Int32) (R : va_W) (g : Nat → Int32) : (MW ct ad iv ia R).set 34 (ad 34, .inl (ct 0, 200, .inl g)) = MW ct ad iv (va_up ia 34 g) R := rfl
theorem sm_ia_35 (ct : Nat → ClassId) (ad : Nat → Nat) (iv : Nat → Int32) (ia : Nat → Nat → Int32) (R : va_W) (g : Nat → Int32) : (MW ct ad iv ia R).set 35 (ad 35, .inl (ct 0, 200, .inl g)) = MW ct ad iv (va_up ia 35 g) R := rfl
theorem sm_ia_36 (ct : Nat → ClassId) (ad : Nat → Nat) (iv : Nat → Int32) (ia : Nat → Nat → Int32) (R : va_W) (g : Nat → Int32) : (MW ct ad iv ia R).set 36 (ad 36, .inl (ct 0, 200, .inl g)) = MW ct ad iv (va_up ia 36 g) R := rfl
theorem sm_ia_37 (ct : Nat → ClassId) (ad : Nat → Nat) (iv : Nat → Int32) (ia : Nat → Nat → Int32) (R : va_W) (g : Nat → Int32) : (MW ct ad iv ia R).set 37 (ad 37, .inl (ct 0, 200, .inl g)) = MW ct ad iv (va_up ia 37 g) R := rfl
theorem sm_ia_38 (ct : Nat → ClassId) (ad : Nat → Nat) (iv : Nat → Int32) (ia : Nat → Nat → Int32) (R : va_W) (g : Nat → Int32) : (MW ct ad iv ia R).set 38 (ad 38, .inl (ct 0, 200, .inl g)) = MW ct ad iv (va_up ia 38 g) R := rfl
theorem sm_ia_39 (ct : Nat → ClassId) (ad : Nat → Nat) (iv : Nat → Int32) (ia : Nat → Nat → Int32) (R : va_W) (g : Nat → Int32) : (MW ct ad iv ia R).set 39 (ad 39, .inl (ct 0, 1600, .inl g)) = MW ct ad iv (va_up ia 39 g) R := rfl
theorem sm_ia_40 (ct : Nat → ClassId) (ad : Nat → Nat) (iv : Nat → Int32) (ia : Nat → Nat → Int32) (R : va_W) (g : Nat → Int32) : (MW ct ad iv ia R).set 40 (ad 40, .inl (ct 0, 200, .inl g)) = MW ct ad iv (va_up ia 40 g) R := rfl
theorem sm_ia_41 (ct : Nat → ClassId) (ad : Nat → Nat) (iv : Nat → Int32) (ia : Nat → Nat → Int32) (R : va_W) (g : Nat → Int32) : (MW ct ad iv ia R).set 41 (ad 41, .inl (ct 0, 2400, .inl g)) = MW ct ad iv (va_up ia 41 g) R := rfl
theorem sm_ia_42 (ct : Nat → ClassId) (ad : Nat → Nat) (iv : Nat → Int32) (ia : Nat → Nat → Int32) (R : va_W) (g : Nat → Int32) : (MW ct ad iv ia R).set 42 (ad 42, .inl (ct 0, 2400, .inl g)) = MW ct ad iv (va_up ia 42 g) R := rfl
theorem sm_ia_43 (ct : Nat → ClassId) (ad : Nat → Nat) (iv : Nat → Int32) (ia : Nat → Nat → Int32) (R : va_W) (g : Nat → Int32) : (MW ct ad iv ia R).set 43 (ad 43, .inl (ct 0, 200, .inl g)) = MW ct ad iv (va_up ia 43 g) R := rfl
theorem sm_ia_44 (ct : Nat → ClassId) (ad : Nat → Nat) (iv : Nat → Int32) (ia : Nat → Nat → Int32) (R : va_W) (g : Nat → Int32) : (MW ct ad iv ia R).set 44 (ad 44, .inl (ct 0, 400, .inl g)) = MW ct ad iv (va_up ia 44 g) R := rfl
theorem sm_ia_45 (ct : Nat → ClassId) (ad : Nat → Nat) (iv : Nat → Int32) (ia : Nat → Nat → Int32) (R : va_W) (g : Nat → Int32) : (MW ct ad iv ia R).set 45 (ad 45, .inl (ct 0, 400, .inl g)) = MW ct ad iv (va_up ia 45 g) R := rfl
theorem sm_ia_46 (ct : Nat → ClassId) (ad : Nat → Nat) (iv : Nat → Int32) (ia : Nat → Nat → Int32) (R : va_W) (g : Nat → Int32) : (MW ct ad iv ia R).set 46 (ad 46, .inl (ct 0, 400, .inl g)) = MW ct ad iv (va_up ia 46 g) R := rfl
theorem sm_ia_47 (ct : Nat → ClassId) (ad : Nat → Nat) (iv : Nat → Int32) (ia : Nat → Nat → Int32) (R : va_W) (g : Nat → Int32) : (MW ct ad iv ia R).set 47 (ad 47, .inl (ct 0, 400, .inl g)) = MW ct ad iv (va_up ia 47 g) R := rfl
theorem sm_ia_48 (ct : Nat → ClassId) (ad : Nat → Nat) (iv : Nat → Int32) (ia : Nat → Nat → Int32) (R : va_W) (g : Nat → Int32) : (MW ct ad iv ia R).set 48 (ad 48, .inl (ct 0, 400, .inl g)) = MW ct ad iv (va_up ia 48 g) R := rfl
theorem sm_ia_49 (ct : Nat → ClassId) (ad : Nat → Nat) (iv : Nat → Int32) (ia : Nat → Nat → Int32) (R : va_W) (g : Nat → Int32) : (MW ct ad iv ia R).set 49 (ad 49, .inl (ct 0, 400, .inl g)) = MW ct ad iv (va_up ia 49 g) R := rfl
theorem sm_ia_50 (ct : Nat → ClassId) (ad : Nat → Nat) (iv : Nat → Int32) (ia : Nat → Nat → Int32) (R : va_W) (g : Nat → Int32) : (MW ct ad iv ia R).set 50 (ad 50, .inl (ct 0, 400, .inl g)) = MW ct ad iv (va_up ia 50 g) R := rfl
theorem sm_ia_51 (ct : Nat → ClassId) (ad : Nat → Nat) (iv : Nat → Int32) (ia : Nat → Nat → Int32) (R : va_W) (g : Nat → Int32) : (MW ct ad iv ia R).set 51 (ad 51, .inl (ct 0, 4000, .inl g)) = MW ct ad iv (va_up ia 51 g) R := rfl
theorem sm_ia_52 (ct : Nat → ClassId) (ad : Nat → Nat) (iv : Nat → Int32) (ia : Nat → Nat → Int32) (R : va_W) (g : Nat → Int32) : (MW ct ad iv ia R).set 52 (ad 52, .inl (ct 0, 4000, .inl g)) = MW ct ad iv (va_up ia 52 g) R := rfl
theorem sm_ia_53 (ct : Nat → ClassId) (ad : Nat → Nat) (iv : Nat → Int32) (ia : Nat → Nat → Int32) (R : va_W) (g : Nat → Int32) : (MW ct ad iv ia R).set 53 (ad 53, .inl (ct 0, 4000, .inl g)) = MW ct ad iv (va_up ia 53 g) R := rfl
theorem sm_ia_54 (ct : Nat → ClassId) (ad : Nat → Nat) (iv : Nat → Int32) (ia : Nat → Nat → Int32) (R : va_W) (g : Nat → Int32) : (MW ct ad iv ia R).set 54 (ad 54, .inl (ct 0, 60, .inl g)) = MW ct ad iv (va_up ia 54 g) R := rfl
theorem sm_ia_55 (ct : Nat → ClassId) (ad : Nat → Nat) (iv : Nat → Int32) (ia : Nat → Nat → Int32) (R : va_W) (g : Nat → Int32) : (MW ct ad iv ia R).set 55 (ad 55, .inl (ct 0, 6, .inl g)) = MW ct ad iv (va_up ia 55 g) R := rfl
theorem sm_ia_56 (ct : Nat → ClassId) (ad : Nat → Nat) (iv : Nat → Int32) (ia : Nat → Nat → Int32) (R : va_W) (g : Nat → Int32) : (MW ct ad iv ia R).set 56 (ad 56, .inl (ct 0, 6, .inl g)) = MW ct ad iv (va_up ia 56 g) R := rfl
theorem sm_ia_57 (ct : Nat → ClassId) (ad : Nat → Nat) (iv : Nat → Int32) (ia : Nat → Nat → Int32) (R : va_W) (g : Nat → Int32) : (MW ct ad iv ia R).set 57 (ad 57, .inl (ct 0, 24, .inl g)) = MW ct ad iv (va_up ia 57 g) R := rfl
theorem sm_ia_58 (ct : Nat → ClassId) (ad : Nat → Nat) (iv : Nat → Int32) (ia : Nat → Nat → Int32) (R : va_W) (g : Nat → Int32) : (MW ct ad iv ia R).set 58 (ad 58, .inl (ct 3, 1600, .inl g)) = MW ct ad iv (va_up ia 58 g) R := rfl
theorem sm_ia_59 (ct : Nat → ClassId) (ad : Nat → Nat) (iv : Nat → Int32) (ia : Nat → Nat → Int32) (R : va_W) (g : Nat → Int32) : (MW ct ad iv ia R).set 59 (ad 59, .inl (ct 0, 24, .inl g)) = MW ct ad iv (va_up ia 59 g) R := rfl
theorem sm_ia_60 (ct : Nat → ClassId) (ad : Nat → Nat) (iv : Nat → Int32) (ia : Nat → Nat → Int32) (R : va_W) (g : Nat → Int32) : (MW ct ad iv ia R).set 60 (ad 60, .inl (ct 3, 24, .inl g)) = MW ct ad iv (va_up ia 60 g) R := rfl
theorem sm_ia_61 (ct : Nat → ClassId) (ad : Nat → Nat) (iv : Nat → Int32) (ia : Nat → Nat → Int32) (R : va_W) (g : Nat → Int32) : (MW ct ad iv ia R).set 61 (ad 61, .inl (ct 0, 480, .inl g)) = MW ct ad iv (va_up ia 61 g) R := rfl
theorem sm_ia_62 (ct : Nat → ClassId) (ad : Nat → Nat) (iv : Nat → Int32) (ia : Nat → Nat → Int32) (R : va_W) (g : Nat → Int32) : (MW ct ad iv ia R).set 62 (ad 62, .inl (ct 0, 480, .inl g)) = MW ct ad iv (va_up ia 62 g) R := rfl
theorem sm_ia_63 (ct : Nat → ClassId) (ad : Nat → Nat) (iv : Nat → Int32) (ia : Nat → Nat → Int32) (R : va_W) (g : Nat → Int32) : (MW ct ad iv ia R).set 63 (ad 63, .inl (ct 1, 200, .inl g)) = MW ct ad iv (va_up ia 63 g) R := rfl
theorem sm_ia_64 (ct : Nat → ClassId) (ad : Nat → Nat) (iv : Nat → Int32) (ia : Nat → Nat → Int32) (R : va_W) (g : Nat → Int32) : (MW ct ad iv ia R).set 64 (ad 64, .inl (ct 0, 6, .inl g)) = MW ct ad iv (va_up ia 64 g) R := rfl
theorem sm_ia_65 (ct : Nat → ClassId) (ad : Nat → Nat) (iv : Nat → Int32) (ia : Nat → Nat → Int32) (R : va_W) (g : Nat → Int32) : (MW ct ad iv ia R).set 65 (ad 65, .inl (ct 0, 6, .inl g)) = MW ct ad iv (va_up ia 65 g) R := rfl
theorem sm_ia_66 (ct : Nat → ClassId) (ad : Nat → Nat) (iv : Nat → Int32) (ia : Nat → Nat → Int32) (R : va_W) (g : Nat → Int32) : (MW ct ad iv ia R).set 66 (ad 66, .inl (ct 0, 6, .inl g)) = MW ct ad iv (va_up ia 66 g) R := rfl
theorem upd_all {f : Nat → Int32} {n : Int} {i : Nat} {x : Int32} (h : ∀ j, (f j).toInt = n) (hx : x.toInt = n) : ∀ j, (upd f i x j).toInt = n := by
  intro j
  unfold upd
  split
  · exact hx
  · exact h j
theorem ret_Q {p : Program} {l : Launch} {e : Env} {R : Room} {s : State} {m : MethodId} {args : Array Value} {below : List Frame} {meth : Method} {c : Code} {H : Heap} {locs : List Loc} {cells slots : Nat} {cc : ByteArray} {pc : Nat} {ls : Array Slot} {D : va_G} {T : List (ClassId × FieldType)} {A : Nat → Prop} {own : String} {nL tN : Nat} {S : Type} {W' : S → va_W} {post : Option Nat → S → Prop} {v : Option Nat} {ty : FieldType} (E : Ev p s m args c own nL cc D T tN A) (hr : meth.sig.returnType = some ty) (hlocks : meth.locks = false) (hrt : (∃ n, ty = .object n) ∨ ∃ t, ty = .array t) {u : S} (B : Hp D A s.heap (W' u) H locs) (hp : post v u) (hdg : decode cc pc = .ok (.areturn, 1)) : W p l e R s m args below meth c H locs cells slots (MQ below (va_Qq post (BW D A W') A) args s cells slots A) (F0 m pc ls [va_rf v]) :=
  W.aret E.1.1 E.1.2.1 hr hrt (va_rf_or v) (fun t ht hW => ⟨⟨v, u, rfl, hp, by rw [ht]; exact B.1, B.2.1⟩, B.2.2.F ht⟩) B.2.2.2.2 hdg (hlocks := hlocks)
end
section
theorem dX0_arePart_0 : decode cX0_arePart 0 = .ok (.aload_n 0, 1) := by decide +kernel
theorem dX0_arePart_1 : decode cX0_arePart 1 = .ok (.getfield 21, 3) := by decide +kernel
theorem dX0_arePart_4 : decode cX0_arePart 4 = .ok (.iload_n 1, 1) := by decide +kernel
theorem dX0_arePart_5 : decode cX0_arePart 5 = .ok (.laload, 1) := by decide +kernel
theorem dX0_arePart_6 : decode cX0_arePart 6 = .ok (.lconst 1, 1) := by decide +kernel
theorem dX0_arePart_7 : decode cX0_arePart 7 = .ok (.iload_n 2, 1) := by decide +kernel
theorem dX0_arePart_8 : decode cX0_arePart 8 = .ok (.lshl, 1) := by decide +kernel
theorem dX0_arePart_9 : decode cX0_arePart 9 = .ok (.land, 1) := by decide +kernel
theorem dX0_arePart_10 : decode cX0_arePart 10 = .ok (.lconst 0, 1) := by decide +kernel
theorem dX0_arePart_11 : decode cX0_arePart 11 = .ok (.lcmp, 1) := by decide +kernel
theorem dX0_arePart_12 : decode cX0_arePart 12 = .ok (.ifCond .eq 7, 3) := by decide +kernel
theorem dX0_arePart_19 : decode cX0_arePart 19 = .ok (.iconst 0, 1) := by decide +kernel
theorem dX0_arePart_20 : decode cX0_arePart 20 = .ok (.ireturn, 1) := by decide +kernel
theorem dX0_choiceOfRow_0 : decode cX0_choiceOfRow 0 = .ok (.iconst 0, 1) := by decide +kernel
theorem dX0_choiceOfRow_1 : decode cX0_choiceOfRow 1 = .ok (.istore_n 1, 1) := by decide +kernel
theorem dX0_choiceOfRow_2 : decode cX0_choiceOfRow 2 = .ok (.aload_n 0, 1) := by decide +kernel
theorem dX0_choiceOfRow_3 : decode cX0_choiceOfRow 3 = .ok (.getfield 51, 3) := by decide +kernel
theorem dX0_choiceOfRow_6 : decode cX0_choiceOfRow 6 = .ok (.iconst 1, 1) := by decide +kernel
theorem dX0_choiceOfRow_7 : decode cX0_choiceOfRow 7 = .ok (.isub, 1) := by decide +kernel
theorem dX0_choiceOfRow_8 : decode cX0_choiceOfRow 8 = .ok (.istore_n 2, 1) := by decide +kernel
theorem dX0_choiceOfRow_9 : decode cX0_choiceOfRow 9 = .ok (.iload_n 2, 1) := by decide +kernel
theorem dX0_choiceOfRow_10 : decode cX0_choiceOfRow 10 = .ok (.ifCond .lt 20, 3) := by decide +kernel
theorem dX0_choiceOfRow_30 : decode cX0_choiceOfRow 30 = .ok (.iload_n 1, 1) := by decide +kernel
theorem dX0_choiceOfRow_31 : decode cX0_choiceOfRow 31 = .ok (.ireturn, 1) := by decide +kernel
theorem dX0_choose_0 : decode cX0_choose 0 = .ok (.iload_n 2, 1) := by decide +kernel
theorem dX0_choose_1 : decode cX0_choose 1 = .ok (.aload_n 0, 1) := by decide +kernel
theorem dX0_choose_2 : decode cX0_choose 2 = .ok (.getfield 71, 3) := by decide +kernel
theorem dX0_choose_5 : decode cX0_choose 5 = .ok (.if_icmp .lt 4, 3) := by decide +kernel
theorem dX0_choose_9 : decode cX0_choose 9 = .ok (.iload_n 1, 1) := by decide +kernel
theorem dX0_choose_10 : decode cX0_choose 10 = .ok (.aload_n 0, 1) := by decide +kernel
theorem dX0_choose_11 : decode cX0_choose 11 = .ok (.getfield 51, 3) := by decide +kernel
theorem dX0_choose_14 : decode cX0_choose 14 = .ok (.if_icmp .lt 17, 3) := by decide +kernel
theorem dX0_choose_17 : decode cX0_choose 17 = .ok (.aload_n 0, 1) := by decide +kernel
theorem dX0_choose_18 : decode cX0_choose 18 = .ok (.iload_n 2, 1) := by decide +kernel
theorem dX0_choose_19 : decode cX0_choose 19 = .ok (.putfield 71, 3) := by decide +kernel
theorem dX0_choose_22 : decode cX0_choose 22 = .ok (.aload_n 0, 1) := by decide +kernel
theorem dX0_choose_23 : decode cX0_choose 23 = .ok (.aload_n 0, 1) := by decide +kernel
theorem dX0_choose_24 : decode cX0_choose 24 = .ok (.invokevirtual 84, 3) := by decide +kernel
theorem dX0_choose_27 : decode cX0_choose 27 = .ok (.putfield 74, 3) := by decide +kernel
theorem dX0_choose_30 : decode cX0_choose 30 = .ok (.return_, 1) := by decide +kernel
theorem dX0_leastPriced_0 : decode cX0_leastPriced 0 = .ok (.aload_n 0, 1) := by decide +kernel
theorem dX0_leastPriced_1 : decode cX0_leastPriced 1 = .ok (.ldc 70, 2) := by decide +kernel
theorem dX0_leastPriced_3 : decode cX0_leastPriced 3 = .ok (.putfield 71, 3) := by decide +kernel
theorem dX0_leastPriced_6 : decode cX0_leastPriced 6 = .ok (.aload_n 0, 1) := by decide +kernel
theorem dX0_leastPriced_7 : decode cX0_leastPriced 7 = .ok (.iconst (-1), 1) := by decide +kernel
theorem dX0_leastPriced_8 : decode cX0_leastPriced 8 = .ok (.putfield 74, 3) := by decide +kernel
theorem dX0_leastPriced_11 : decode cX0_leastPriced 11 = .ok (.aload_n 0, 1) := by decide +kernel
theorem dX0_leastPriced_12 : decode cX0_leastPriced 12 = .ok (.iconst 0, 1) := by decide +kernel
theorem dX0_leastPriced_13 : decode cX0_leastPriced 13 = .ok (.iconst 0, 1) := by decide +kernel
theorem dX0_leastPriced_14 : decode cX0_leastPriced 14 = .ok (.invokevirtual 77, 3) := by decide +kernel
theorem dX0_leastPriced_17 : decode cX0_leastPriced 17 = .ok (.aload_n 0, 1) := by decide +kernel
theorem dX0_leastPriced_18 : decode cX0_leastPriced 18 = .ok (.getfield 74, 3) := by decide +kernel
theorem dX0_leastPriced_21 : decode cX0_leastPriced 21 = .ok (.ireturn, 1) := by decide +kernel
theorem dX0_part_0 : decode cX0_part 0 = .ok (.aload_n 0, 1) := by decide +kernel
theorem dX0_part_1 : decode cX0_part 1 = .ok (.iload_n 1, 1) := by decide +kernel
theorem dX0_part_2 : decode cX0_part 2 = .ok (.iload_n 2, 1) := by decide +kernel
theorem dX0_part_3 : decode cX0_part 3 = .ok (.invokevirtual 63, 3) := by decide +kernel
theorem dX0_part_6 : decode cX0_part 6 = .ok (.ifCond .eq 5, 3) := by decide +kernel
theorem dX0_part_11 : decode cX0_part 11 = .ok (.aload_n 0, 1) := by decide +kernel
theorem dX0_part_12 : decode cX0_part 12 = .ok (.getfield 21, 3) := by decide +kernel
theorem dX0_part_15 : decode cX0_part 15 = .ok (.iload_n 1, 1) := by decide +kernel
theorem dX0_part_16 : decode cX0_part 16 = .ok (.dup2, 1) := by decide +kernel
theorem dX0_part_17 : decode cX0_part 17 = .ok (.laload, 1) := by decide +kernel
theorem dX0_part_18 : decode cX0_part 18 = .ok (.lconst 1, 1) := by decide +kernel
theorem dX0_part_19 : decode cX0_part 19 = .ok (.iload_n 2, 1) := by decide +kernel
theorem dX0_part_20 : decode cX0_part 20 = .ok (.lshl, 1) := by decide +kernel
theorem dX0_part_21 : decode cX0_part 21 = .ok (.lor, 1) := by decide +kernel
theorem dX0_part_22 : decode cX0_part 22 = .ok (.lastore, 1) := by decide +kernel
theorem dX0_part_23 : decode cX0_part 23 = .ok (.aload_n 0, 1) := by decide +kernel
theorem dX0_part_24 : decode cX0_part 24 = .ok (.getfield 21, 3) := by decide +kernel
theorem dX0_part_27 : decode cX0_part 27 = .ok (.iload_n 2, 1) := by decide +kernel
theorem dX0_part_28 : decode cX0_part 28 = .ok (.dup2, 1) := by decide +kernel
theorem dX0_part_29 : decode cX0_part 29 = .ok (.laload, 1) := by decide +kernel
theorem dX0_part_30 : decode cX0_part 30 = .ok (.lconst 1, 1) := by decide +kernel
theorem dX0_part_31 : decode cX0_part 31 = .ok (.iload_n 1, 1) := by decide +kernel
theorem dX0_part_32 : decode cX0_part 32 = .ok (.lshl, 1) := by decide +kernel
theorem dX0_part_33 : decode cX0_part 33 = .ok (.lor, 1) := by decide +kernel
theorem dX0_part_34 : decode cX0_part 34 = .ok (.lastore, 1) := by decide +kernel
theorem dX0_part_35 : decode cX0_part 35 = .ok (.iconst 1, 1) := by decide +kernel
theorem dX0_part_36 : decode cX0_part 36 = .ok (.ireturn, 1) := by decide +kernel
theorem dX0_priceOfRow_0 : decode cX0_priceOfRow 0 = .ok (.iconst 0, 1) := by decide +kernel
theorem dX0_priceOfRow_1 : decode cX0_priceOfRow 1 = .ok (.istore_n 1, 1) := by decide +kernel
theorem dX0_priceOfRow_2 : decode cX0_priceOfRow 2 = .ok (.iconst 0, 1) := by decide +kernel
theorem dX0_priceOfRow_3 : decode cX0_priceOfRow 3 = .ok (.istore_n 2, 1) := by decide +kernel
theorem dX0_priceOfRow_4 : decode cX0_priceOfRow 4 = .ok (.iload_n 2, 1) := by decide +kernel
theorem dX0_priceOfRow_5 : decode cX0_priceOfRow 5 = .ok (.aload_n 0, 1) := by decide +kernel
theorem dX0_priceOfRow_6 : decode cX0_priceOfRow 6 = .ok (.getfield 51, 3) := by decide +kernel
theorem dX0_priceOfRow_9 : decode cX0_priceOfRow 9 = .ok (.if_icmp .ge 38, 3) := by decide +kernel
theorem dX0_priceOfRow_47 : decode cX0_priceOfRow 47 = .ok (.iload_n 1, 1) := by decide +kernel
theorem dX0_priceOfRow_48 : decode cX0_priceOfRow 48 = .ok (.ireturn, 1) := by decide +kernel
theorem dX0_readRow_0 : decode cX0_readRow 0 = .ok (.iload_n 1, 1) := by decide +kernel
theorem dX0_readRow_1 : decode cX0_readRow 1 = .ok (.ifCond .ge 5, 3) := by decide +kernel
theorem dX0_readRow_4 : decode cX0_readRow 4 = .ok (.iconst 0, 1) := by decide +kernel
theorem dX0_readRow_5 : decode cX0_readRow 5 = .ok (.ireturn, 1) := by decide +kernel
theorem dX0_readRow_6 : decode cX0_readRow 6 = .ok (.iload_n 1, 1) := by decide +kernel
theorem dX0_readRow_7 : decode cX0_readRow 7 = .ok (.istore_n 2, 1) := by decide +kernel
theorem dX0_readRow_8 : decode cX0_readRow 8 = .ok (.iconst 0, 1) := by decide +kernel
theorem dX0_readRow_9 : decode cX0_readRow 9 = .ok (.istore_n 3, 1) := by decide +kernel
theorem dX0_readRow_10 : decode cX0_readRow 10 = .ok (.iload_n 3, 1) := by decide +kernel
theorem dX0_readRow_11 : decode cX0_readRow 11 = .ok (.aload_n 0, 1) := by decide +kernel
theorem dX0_readRow_12 : decode cX0_readRow 12 = .ok (.getfield 51, 3) := by decide +kernel
theorem dX0_readRow_15 : decode cX0_readRow 15 = .ok (.if_icmp .ge 39, 3) := by decide +kernel
theorem dX0_readRow_54 : decode cX0_readRow 54 = .ok (.iload_n 2, 1) := by decide +kernel
theorem dX0_readRow_55 : decode cX0_readRow 55 = .ok (.ifCond .ne 7, 3) := by decide +kernel
theorem dX0_readRow_58 : decode cX0_readRow 58 = .ok (.iconst 1, 1) := by decide +kernel
theorem dX0_readRow_59 : decode cX0_readRow 59 = .ok (.goto 4, 3) := by decide +kernel
theorem dX0_readRow_62 : decode cX0_readRow 62 = .ok (.iconst 0, 1) := by decide +kernel
theorem dX0_readRow_63 : decode cX0_readRow 63 = .ok (.ireturn, 1) := by decide +kernel
theorem dX0_reckon_0 : decode cX0_reckon 0 = .ok (.iconst 0, 1) := by decide +kernel
theorem dX0_reckon_1 : decode cX0_reckon 1 = .ok (.istore_n 2, 1) := by decide +kernel
theorem dX0_reckon_2 : decode cX0_reckon 2 = .ok (.iload_n 2, 1) := by decide +kernel
theorem dX0_reckon_3 : decode cX0_reckon 3 = .ok (.aload_n 0, 1) := by decide +kernel
theorem dX0_reckon_4 : decode cX0_reckon 4 = .ok (.getfield 25, 3) := by decide +kernel
theorem dX0_reckon_7 : decode cX0_reckon 7 = .ok (.arraylength, 1) := by decide +kernel
theorem dX0_reckon_8 : decode cX0_reckon 8 = .ok (.if_icmp .ge 23, 3) := by decide +kernel
theorem dX0_reckon_11 : decode cX0_reckon 11 = .ok (.aload_n 0, 1) := by decide +kernel
theorem dX0_reckon_12 : decode cX0_reckon 12 = .ok (.getfield 25, 3) := by decide +kernel
theorem dX0_reckon_15 : decode cX0_reckon 15 = .ok (.iload_n 2, 1) := by decide +kernel
theorem dX0_reckon_16 : decode cX0_reckon 16 = .ok (.iconst 0, 1) := by decide +kernel
theorem dX0_reckon_17 : decode cX0_reckon 17 = .ok (.iastore, 1) := by decide +kernel
theorem dX0_reckon_18 : decode cX0_reckon 18 = .ok (.aload_n 0, 1) := by decide +kernel
theorem dX0_reckon_19 : decode cX0_reckon 19 = .ok (.getfield 28, 3) := by decide +kernel
theorem dX0_reckon_22 : decode cX0_reckon 22 = .ok (.iload_n 2, 1) := by decide +kernel
theorem dX0_reckon_23 : decode cX0_reckon 23 = .ok (.iconst 0, 1) := by decide +kernel
theorem dX0_reckon_24 : decode cX0_reckon 24 = .ok (.bastore, 1) := by decide +kernel
theorem dX0_reckon_25 : decode cX0_reckon 25 = .ok (.iinc 2 1, 3) := by decide +kernel
theorem dX0_reckon_28 : decode cX0_reckon 28 = .ok (.goto (-26), 3) := by decide +kernel
theorem dX0_reckon_31 : decode cX0_reckon 31 = .ok (.aload_n 0, 1) := by decide +kernel
theorem dX0_reckon_32 : decode cX0_reckon 32 = .ok (.getfield 51, 3) := by decide +kernel
theorem dX0_reckon_35 : decode cX0_reckon 35 = .ok (.ifCond .ne 4, 3) := by decide +kernel
theorem dX0_reckon_38 : decode cX0_reckon 38 = .ok (.return_, 1) := by decide +kernel
theorem dX0_size_0 : decode cX0_size 0 = .ok (.aload_n 0, 1) := by decide +kernel
theorem dX0_size_1 : decode cX0_size 1 = .ok (.getfield 51, 3) := by decide +kernel
theorem dX0_size_4 : decode cX0_size 4 = .ok (.ireturn, 1) := by decide +kernel
theorem dX10_has_0 : decode cX10_has 0 = .ok (.iload_n 1, 1) := by decide +kernel
theorem dX10_has_1 : decode cX10_has 1 = .ok (.ifCond .lt 15, 3) := by decide +kernel
theorem dX10_has_4 : decode cX10_has 4 = .ok (.iload_n 1, 1) := by decide +kernel
theorem dX10_has_5 : decode cX10_has 5 = .ok (.aload_n 0, 1) := by decide +kernel
theorem dX10_has_6 : decode cX10_has 6 = .ok (.getfield 18, 3) := by decide +kernel
theorem dX10_has_9 : decode cX10_has 9 = .ok (.if_icmp .ge 7, 3) := by decide +kernel
theorem dX10_has_16 : decode cX10_has 16 = .ok (.iconst 0, 1) := by decide +kernel
theorem dX10_has_17 : decode cX10_has 17 = .ok (.ireturn, 1) := by decide +kernel
theorem dX10_size_0 : decode cX10_size 0 = .ok (.aload_n 0, 1) := by decide +kernel
theorem dX10_size_1 : decode cX10_size 1 = .ok (.getfield 18, 3) := by decide +kernel
theorem dX10_size_4 : decode cX10_size 4 = .ok (.ireturn, 1) := by decide +kernel
theorem dX11_isDay_0 : decode cX11_isDay 0 = .ok (.iload_n 0, 1) := by decide +kernel
theorem dX11_isDay_1 : decode cX11_isDay 1 = .ok (.ifCond .lt 14, 3) := by decide +kernel
theorem dX11_isDay_4 : decode cX11_isDay 4 = .ok (.iload_n 0, 1) := by decide +kernel
theorem dX11_isDay_5 : decode cX11_isDay 5 = .ok (.sipush 3999, 3) := by decide +kernel
theorem dX11_isDay_8 : decode cX11_isDay 8 = .ok (.if_icmp .gt 7, 3) := by decide +kernel
theorem dX11_isDay_11 : decode cX11_isDay 11 = .ok (.iconst 1, 1) := by decide +kernel
theorem dX11_isDay_12 : decode cX11_isDay 12 = .ok (.goto 4, 3) := by decide +kernel
theorem dX11_isDay_15 : decode cX11_isDay 15 = .ok (.iconst 0, 1) := by decide +kernel
theorem dX11_isDay_16 : decode cX11_isDay 16 = .ok (.ireturn, 1) := by decide +kernel
theorem dX11_isEdition_0 : decode cX11_isEdition 0 = .ok (.iload_n 0, 1) := by decide +kernel
theorem dX11_isEdition_1 : decode cX11_isEdition 1 = .ok (.ifCond .lt 12, 3) := by decide +kernel
theorem dX11_isEdition_4 : decode cX11_isEdition 4 = .ok (.iload_n 0, 1) := by decide +kernel
theorem dX11_isEdition_5 : decode cX11_isEdition 5 = .ok (.iconst 4, 1) := by decide +kernel
theorem dX11_isEdition_6 : decode cX11_isEdition 6 = .ok (.if_icmp .ge 7, 3) := by decide +kernel
theorem dX11_isEdition_9 : decode cX11_isEdition 9 = .ok (.iconst 1, 1) := by decide +kernel
theorem dX11_isEdition_10 : decode cX11_isEdition 10 = .ok (.goto 4, 3) := by decide +kernel
theorem dX11_isEdition_13 : decode cX11_isEdition 13 = .ok (.iconst 0, 1) := by decide +kernel
theorem dX11_isEdition_14 : decode cX11_isEdition 14 = .ok (.ireturn, 1) := by decide +kernel
theorem dX11_isPastDay_0 : decode cX11_isPastDay 0 = .ok (.iload_n 1, 1) := by decide +kernel
theorem dX11_isPastDay_1 : decode cX11_isPastDay 1 = .ok (.ifCond .lt 15, 3) := by decide +kernel
theorem dX11_isPastDay_4 : decode cX11_isPastDay 4 = .ok (.iload_n 1, 1) := by decide +kernel
theorem dX11_isPastDay_5 : decode cX11_isPastDay 5 = .ok (.aload_n 0, 1) := by decide +kernel
theorem dX11_isPastDay_6 : decode cX11_isPastDay 6 = .ok (.getfield 98, 3) := by decide +kernel
theorem dX11_isPastDay_9 : decode cX11_isPastDay 9 = .ok (.if_icmp .gt 7, 3) := by decide +kernel
theorem dX11_isPastDay_12 : decode cX11_isPastDay 12 = .ok (.iconst 1, 1) := by decide +kernel
theorem dX11_isPastDay_13 : decode cX11_isPastDay 13 = .ok (.goto 4, 3) := by decide +kernel
theorem dX11_isPastDay_16 : decode cX11_isPastDay 16 = .ok (.iconst 0, 1) := by decide +kernel
theorem dX11_isPastDay_17 : decode cX11_isPastDay 17 = .ok (.ireturn, 1) := by decide +kernel
theorem dX11_isRate_0 : decode cX11_isRate 0 = .ok (.iload_n 0, 1) := by decide +kernel
theorem dX11_isRate_1 : decode cX11_isRate 1 = .ok (.ifCond .lt 13, 3) := by decide +kernel
theorem dX11_isRate_4 : decode cX11_isRate 4 = .ok (.iload_n 0, 1) := by decide +kernel
theorem dX11_isRate_5 : decode cX11_isRate 5 = .ok (.bipush 99, 2) := by decide +kernel
theorem dX11_isRate_7 : decode cX11_isRate 7 = .ok (.if_icmp .gt 7, 3) := by decide +kernel
theorem dX11_isRate_10 : decode cX11_isRate 10 = .ok (.iconst 1, 1) := by decide +kernel
theorem dX11_isRate_11 : decode cX11_isRate 11 = .ok (.goto 4, 3) := by decide +kernel
theorem dX11_isRate_14 : decode cX11_isRate 14 = .ok (.iconst 0, 1) := by decide +kernel
theorem dX11_isRate_15 : decode cX11_isRate 15 = .ok (.ireturn, 1) := by decide +kernel
theorem dX11_isSign_0 : decode cX11_isSign 0 = .ok (.iload_n 0, 1) := by decide +kernel
theorem dX11_isSign_1 : decode cX11_isSign 1 = .ok (.ifCond .lt 13, 3) := by decide +kernel
theorem dX11_isSign_4 : decode cX11_isSign 4 = .ok (.iload_n 0, 1) := by decide +kernel
theorem dX11_isSign_5 : decode cX11_isSign 5 = .ok (.bipush 40, 2) := by decide +kernel
theorem dX11_isSign_7 : decode cX11_isSign 7 = .ok (.if_icmp .ge 7, 3) := by decide +kernel
theorem dX11_isSign_10 : decode cX11_isSign 10 = .ok (.iconst 1, 1) := by decide +kernel
theorem dX11_isSign_11 : decode cX11_isSign 11 = .ok (.goto 4, 3) := by decide +kernel
theorem dX11_isSign_14 : decode cX11_isSign 14 = .ok (.iconst 0, 1) := by decide +kernel
theorem dX11_isSign_15 : decode cX11_isSign 15 = .ok (.ireturn, 1) := by decide +kernel
theorem dX11_putFour_0 : decode cX11_putFour 0 = .ok (.bipush 24, 2) := by decide +kernel
theorem dX11_putFour_2 : decode cX11_putFour 2 = .ok (.istore_n 2, 1) := by decide +kernel
theorem dX11_putFour_3 : decode cX11_putFour 3 = .ok (.iload_n 2, 1) := by decide +kernel
theorem dX11_putFour_4 : decode cX11_putFour 4 = .ok (.ifCond .lt 45, 3) := by decide +kernel
theorem dX11_putFour_7 : decode cX11_putFour 7 = .ok (.aload_n 0, 1) := by decide +kernel
theorem dX11_putFour_8 : decode cX11_putFour 8 = .ok (.getfield 102, 3) := by decide +kernel
theorem dX11_putFour_11 : decode cX11_putFour 11 = .ok (.sipush 200, 3) := by decide +kernel
theorem dX11_putFour_14 : decode cX11_putFour 14 = .ok (.if_icmp .ge 29, 3) := by decide +kernel
theorem dX11_putFour_17 : decode cX11_putFour 17 = .ok (.aload_n 0, 1) := by decide +kernel
theorem dX11_putFour_18 : decode cX11_putFour 18 = .ok (.getfield 9, 3) := by decide +kernel
theorem dX11_putFour_21 : decode cX11_putFour 21 = .ok (.aload_n 0, 1) := by decide +kernel
theorem dX11_putFour_22 : decode cX11_putFour 22 = .ok (.getfield 102, 3) := by decide +kernel
theorem dX11_putFour_25 : decode cX11_putFour 25 = .ok (.iload_n 1, 1) := by decide +kernel
theorem dX11_putFour_26 : decode cX11_putFour 26 = .ok (.iload_n 2, 1) := by decide +kernel
theorem dX11_putFour_27 : decode cX11_putFour 27 = .ok (.iushr, 1) := by decide +kernel
theorem dX11_putFour_28 : decode cX11_putFour 28 = .ok (.sipush 255, 3) := by decide +kernel
theorem dX11_putFour_31 : decode cX11_putFour 31 = .ok (.iand, 1) := by decide +kernel
theorem dX11_putFour_32 : decode cX11_putFour 32 = .ok (.iastore, 1) := by decide +kernel
theorem dX11_putFour_33 : decode cX11_putFour 33 = .ok (.aload_n 0, 1) := by decide +kernel
theorem dX11_putFour_34 : decode cX11_putFour 34 = .ok (.dup, 1) := by decide +kernel
theorem dX11_putFour_35 : decode cX11_putFour 35 = .ok (.getfield 102, 3) := by decide +kernel
theorem dX11_putFour_38 : decode cX11_putFour 38 = .ok (.iconst 1, 1) := by decide +kernel
theorem dX11_putFour_39 : decode cX11_putFour 39 = .ok (.iadd, 1) := by decide +kernel
theorem dX11_putFour_40 : decode cX11_putFour 40 = .ok (.putfield 102, 3) := by decide +kernel
theorem dX11_putFour_43 : decode cX11_putFour 43 = .ok (.iinc 2 (-8), 3) := by decide +kernel
theorem dX11_putFour_46 : decode cX11_putFour 46 = .ok (.goto (-43), 3) := by decide +kernel
theorem dX11_putFour_49 : decode cX11_putFour 49 = .ok (.return_, 1) := by decide +kernel
theorem dX11_tapeHas_0 : decode cX11_tapeHas 0 = .ok (.iload_n 1, 1) := by decide +kernel
theorem dX11_tapeHas_1 : decode cX11_tapeHas 1 = .ok (.iconst 1, 1) := by decide +kernel
theorem dX11_tapeHas_2 : decode cX11_tapeHas 2 = .ok (.if_icmp .lt 20, 3) := by decide +kernel
theorem dX11_tapeHas_5 : decode cX11_tapeHas 5 = .ok (.iload_n 1, 1) := by decide +kernel
theorem dX11_tapeHas_6 : decode cX11_tapeHas 6 = .ok (.iload_n 2, 1) := by decide +kernel
theorem dX11_tapeHas_7 : decode cX11_tapeHas 7 = .ok (.if_icmp .gt 15, 3) := by decide +kernel
theorem dX11_tapeHas_10 : decode cX11_tapeHas 10 = .ok (.iload_n 1, 1) := by decide +kernel
theorem dX11_tapeHas_11 : decode cX11_tapeHas 11 = .ok (.aload_n 0, 1) := by decide +kernel
theorem dX11_tapeHas_12 : decode cX11_tapeHas 12 = .ok (.getfield 102, 3) := by decide +kernel
theorem dX11_tapeHas_15 : decode cX11_tapeHas 15 = .ok (.if_icmp .gt 7, 3) := by decide +kernel
theorem dX11_tapeHas_22 : decode cX11_tapeHas 22 = .ok (.iconst 0, 1) := by decide +kernel
theorem dX11_tapeHas_23 : decode cX11_tapeHas 23 = .ok (.ireturn, 1) := by decide +kernel
theorem dX1_seekUnlike_0 : decode cX1_seekUnlike 0 = .ok (.aload_n 0, 1) := by decide +kernel
theorem dX1_seekUnlike_1 : decode cX1_seekUnlike 1 = .ok (.iconst 0, 1) := by decide +kernel
theorem dX1_seekUnlike_2 : decode cX1_seekUnlike 2 = .ok (.putfield 49, 3) := by decide +kernel
theorem dX1_seekUnlike_5 : decode cX1_seekUnlike 5 = .ok (.aload_n 0, 1) := by decide +kernel
theorem dX1_seekUnlike_6 : decode cX1_seekUnlike 6 = .ok (.iconst 0, 1) := by decide +kernel
theorem dX1_seekUnlike_7 : decode cX1_seekUnlike 7 = .ok (.putfield 133, 3) := by decide +kernel
theorem dX1_seekUnlike_10 : decode cX1_seekUnlike 10 = .ok (.iconst 0, 1) := by decide +kernel
theorem dX1_seekUnlike_11 : decode cX1_seekUnlike 11 = .ok (.istore_n 3, 1) := by decide +kernel
theorem dX1_seekUnlike_12 : decode cX1_seekUnlike 12 = .ok (.iload_n 3, 1) := by decide +kernel
theorem dX1_seekUnlike_13 : decode cX1_seekUnlike 13 = .ok (.aload_n 0, 1) := by decide +kernel
theorem dX1_seekUnlike_14 : decode cX1_seekUnlike 14 = .ok (.getfield 37, 3) := by decide +kernel
theorem dX1_seekUnlike_17 : decode cX1_seekUnlike 17 = .ok (.invokevirtual 136, 3) := by decide +kernel
theorem dX1_seekUnlike_20 : decode cX1_seekUnlike 20 = .ok (.if_icmp .ge 43, 3) := by decide +kernel
theorem dX1_seekUnlike_63 : decode cX1_seekUnlike 63 = .ok (.iconst 0, 1) := by decide +kernel
theorem dX1_seekUnlike_64 : decode cX1_seekUnlike 64 = .ok (.istore_n 3, 1) := by decide +kernel
theorem dX1_seekUnlike_65 : decode cX1_seekUnlike 65 = .ok (.iload_n 3, 1) := by decide +kernel
theorem dX1_seekUnlike_66 : decode cX1_seekUnlike 66 = .ok (.aload_n 0, 1) := by decide +kernel
theorem dX1_seekUnlike_67 : decode cX1_seekUnlike 67 = .ok (.getfield 133, 3) := by decide +kernel
theorem dX1_seekUnlike_70 : decode cX1_seekUnlike 70 = .ok (.if_icmp .ge 128, 3) := by decide +kernel
theorem dX1_seekUnlike_198 : decode cX1_seekUnlike 198 = .ok (.iconst 0, 1) := by decide +kernel
theorem dX1_seekUnlike_199 : decode cX1_seekUnlike 199 = .ok (.ireturn, 1) := by decide +kernel
theorem dX1_seen_0 : decode cX1_seen 0 = .ok (.aload_n 0, 1) := by decide +kernel
theorem dX1_seen_1 : decode cX1_seen 1 = .ok (.getfield 49, 3) := by decide +kernel
theorem dX1_seen_4 : decode cX1_seen 4 = .ok (.ireturn, 1) := by decide +kernel
theorem dX2_clausesOf_0 : decode cX2_clausesOf 0 = .ok (.iload_n 1, 1) := by decide +kernel
theorem dX2_clausesOf_1 : decode cX2_clausesOf 1 = .ok (.ifCond .lt 20, 3) := by decide +kernel
theorem dX2_clausesOf_4 : decode cX2_clausesOf 4 = .ok (.iload_n 1, 1) := by decide +kernel
theorem dX2_clausesOf_5 : decode cX2_clausesOf 5 = .ok (.aload_n 0, 1) := by decide +kernel
theorem dX2_clausesOf_6 : decode cX2_clausesOf 6 = .ok (.getfield 44, 3) := by decide +kernel
theorem dX2_clausesOf_9 : decode cX2_clausesOf 9 = .ok (.if_icmp .ge 12, 3) := by decide +kernel
theorem dX2_clausesOf_21 : decode cX2_clausesOf 21 = .ok (.iconst 0, 1) := by decide +kernel
theorem dX2_clausesOf_22 : decode cX2_clausesOf 22 = .ok (.ireturn, 1) := by decide +kernel
theorem dX2_hasClause_0 : decode cX2_hasClause 0 = .ok (.iload_n 2, 1) := by decide +kernel
theorem dX2_hasClause_1 : decode cX2_hasClause 1 = .ok (.ifCond .lt 16, 3) := by decide +kernel
theorem dX2_hasClause_4 : decode cX2_hasClause 4 = .ok (.iload_n 2, 1) := by decide +kernel
theorem dX2_hasClause_5 : decode cX2_hasClause 5 = .ok (.aload_n 0, 1) := by decide +kernel
theorem dX2_hasClause_6 : decode cX2_hasClause 6 = .ok (.iload_n 1, 1) := by decide +kernel
theorem dX2_hasClause_7 : decode cX2_hasClause 7 = .ok (.invokevirtual 48, 3) := by decide +kernel
theorem dX2_hasClause_10 : decode cX2_hasClause 10 = .ok (.if_icmp .ge 7, 3) := by decide +kernel
theorem dX2_hasClause_17 : decode cX2_hasClause 17 = .ok (.iconst 0, 1) := by decide +kernel
theorem dX2_hasClause_18 : decode cX2_hasClause 18 = .ok (.ireturn, 1) := by decide +kernel
theorem dX2_isFull_0 : decode cX2_isFull 0 = .ok (.aload_n 0, 1) := by decide +kernel
theorem dX2_isFull_1 : decode cX2_isFull 1 = .ok (.getfield 44, 3) := by decide +kernel
theorem dX2_isFull_4 : decode cX2_isFull 4 = .ok (.bipush 20, 2) := by decide +kernel
theorem dX2_isFull_6 : decode cX2_isFull 6 = .ok (.if_icmp .lt 7, 3) := by decide +kernel
theorem dX2_isFull_13 : decode cX2_isFull 13 = .ok (.iconst 0, 1) := by decide +kernel
theorem dX2_isFull_14 : decode cX2_isFull 14 = .ok (.ireturn, 1) := by decide +kernel
theorem dX2_size_0 : decode cX2_size 0 = .ok (.aload_n 0, 1) := by decide +kernel
theorem dX2_size_1 : decode cX2_size 1 = .ok (.getfield 44, 3) := by decide +kernel
theorem dX2_size_4 : decode cX2_size 4 = .ok (.ireturn, 1) := by decide +kernel
theorem dX4_companies_0 : decode cX4_companies 0 = .ok (.aload_n 0, 1) := by decide +kernel
theorem dX4_companies_1 : decode cX4_companies 1 = .ok (.getfield 21, 3) := by decide +kernel
theorem dX4_companies_4 : decode cX4_companies 4 = .ok (.ireturn, 1) := by decide +kernel
theorem dX4_enterCompany_0 : decode cX4_enterCompany 0 = .ok (.aload_n 0, 1) := by decide +kernel
theorem dX4_enterCompany_1 : decode cX4_enterCompany 1 = .ok (.getfield 21, 3) := by decide +kernel
theorem dX4_enterCompany_4 : decode cX4_enterCompany 4 = .ok (.bipush 6, 2) := by decide +kernel
theorem dX4_enterCompany_6 : decode cX4_enterCompany 6 = .ok (.if_icmp .lt 5, 3) := by decide +kernel
theorem dX4_enterCompany_11 : decode cX4_enterCompany 11 = .ok (.aload_n 0, 1) := by decide +kernel
theorem dX4_enterCompany_12 : decode cX4_enterCompany 12 = .ok (.getfield 11, 3) := by decide +kernel
theorem dX4_enterCompany_15 : decode cX4_enterCompany 15 = .ok (.aload_n 0, 1) := by decide +kernel
theorem dX4_enterCompany_16 : decode cX4_enterCompany 16 = .ok (.getfield 21, 3) := by decide +kernel
theorem dX4_enterCompany_19 : decode cX4_enterCompany 19 = .ok (.iload_n 1, 1) := by decide +kernel
theorem dX4_enterCompany_20 : decode cX4_enterCompany 20 = .ok (.iastore, 1) := by decide +kernel
theorem dX4_enterCompany_21 : decode cX4_enterCompany 21 = .ok (.aload_n 0, 1) := by decide +kernel
theorem dX4_enterCompany_22 : decode cX4_enterCompany 22 = .ok (.getfield 15, 3) := by decide +kernel
theorem dX4_enterCompany_25 : decode cX4_enterCompany 25 = .ok (.aload_n 0, 1) := by decide +kernel
theorem dX4_enterCompany_26 : decode cX4_enterCompany 26 = .ok (.getfield 21, 3) := by decide +kernel
theorem dX4_enterCompany_29 : decode cX4_enterCompany 29 = .ok (.iload_n 2, 1) := by decide +kernel
theorem dX4_enterCompany_30 : decode cX4_enterCompany 30 = .ok (.iastore, 1) := by decide +kernel
theorem dX4_enterCompany_31 : decode cX4_enterCompany 31 = .ok (.aload_n 0, 1) := by decide +kernel
theorem dX4_enterCompany_32 : decode cX4_enterCompany 32 = .ok (.dup, 1) := by decide +kernel
theorem dX4_enterCompany_33 : decode cX4_enterCompany 33 = .ok (.getfield 21, 3) := by decide +kernel
theorem dX4_enterCompany_36 : decode cX4_enterCompany 36 = .ok (.iconst 1, 1) := by decide +kernel
theorem dX4_enterCompany_37 : decode cX4_enterCompany 37 = .ok (.iadd, 1) := by decide +kernel
theorem dX4_enterCompany_38 : decode cX4_enterCompany 38 = .ok (.putfield 21, 3) := by decide +kernel
theorem dX4_enterCompany_41 : decode cX4_enterCompany 41 = .ok (.aload_n 0, 1) := by decide +kernel
theorem dX4_enterCompany_42 : decode cX4_enterCompany 42 = .ok (.getfield 21, 3) := by decide +kernel
theorem dX4_enterCompany_45 : decode cX4_enterCompany 45 = .ok (.iconst 1, 1) := by decide +kernel
theorem dX4_enterCompany_46 : decode cX4_enterCompany 46 = .ok (.isub, 1) := by decide +kernel
theorem dX4_enterCompany_47 : decode cX4_enterCompany 47 = .ok (.ireturn, 1) := by decide +kernel
theorem dX4_hasCompany_0 : decode cX4_hasCompany 0 = .ok (.iload_n 1, 1) := by decide +kernel
theorem dX4_hasCompany_1 : decode cX4_hasCompany 1 = .ok (.ifCond .lt 15, 3) := by decide +kernel
theorem dX4_hasCompany_4 : decode cX4_hasCompany 4 = .ok (.iload_n 1, 1) := by decide +kernel
theorem dX4_hasCompany_5 : decode cX4_hasCompany 5 = .ok (.aload_n 0, 1) := by decide +kernel
theorem dX4_hasCompany_6 : decode cX4_hasCompany 6 = .ok (.getfield 21, 3) := by decide +kernel
theorem dX4_hasCompany_9 : decode cX4_hasCompany 9 = .ok (.if_icmp .ge 7, 3) := by decide +kernel
theorem dX4_hasCompany_16 : decode cX4_hasCompany 16 = .ok (.iconst 0, 1) := by decide +kernel
theorem dX4_hasCompany_17 : decode cX4_hasCompany 17 = .ok (.ireturn, 1) := by decide +kernel
theorem dX4_hasScholar_0 : decode cX4_hasScholar 0 = .ok (.iload_n 1, 1) := by decide +kernel
theorem dX4_hasScholar_1 : decode cX4_hasScholar 1 = .ok (.ifCond .lt 15, 3) := by decide +kernel
theorem dX4_hasScholar_4 : decode cX4_hasScholar 4 = .ok (.iload_n 1, 1) := by decide +kernel
theorem dX4_hasScholar_5 : decode cX4_hasScholar 5 = .ok (.aload_n 0, 1) := by decide +kernel
theorem dX4_hasScholar_6 : decode cX4_hasScholar 6 = .ok (.getfield 25, 3) := by decide +kernel
theorem dX4_hasScholar_9 : decode cX4_hasScholar 9 = .ok (.if_icmp .ge 7, 3) := by decide +kernel
theorem dX4_hasScholar_16 : decode cX4_hasScholar 16 = .ok (.iconst 0, 1) := by decide +kernel
theorem dX4_hasScholar_17 : decode cX4_hasScholar 17 = .ok (.ireturn, 1) := by decide +kernel
theorem dX4_scholars_0 : decode cX4_scholars 0 = .ok (.aload_n 0, 1) := by decide +kernel
theorem dX4_scholars_1 : decode cX4_scholars 1 = .ok (.getfield 25, 3) := by decide +kernel
theorem dX4_scholars_4 : decode cX4_scholars 4 = .ok (.ireturn, 1) := by decide +kernel
theorem dX4_setCentreRate_0 : decode cX4_setCentreRate 0 = .ok (.aload_n 0, 1) := by decide +kernel
theorem dX4_setCentreRate_1 : decode cX4_setCentreRate 1 = .ok (.iload_n 1, 1) := by decide +kernel
theorem dX4_setCentreRate_2 : decode cX4_setCentreRate 2 = .ok (.putfield 35, 3) := by decide +kernel
theorem dX4_setCentreRate_5 : decode cX4_setCentreRate 5 = .ok (.return_, 1) := by decide +kernel
theorem dX5_answer_0 : decode cX5_answer 0 = .ok (.aload_n 0, 1) := by decide +kernel
theorem dX5_answer_1 : decode cX5_answer 1 = .ok (.invokevirtual 41, 3) := by decide +kernel
theorem dX5_answer_4 : decode cX5_answer 4 = .ok (.aload_n 0, 1) := by decide +kernel
theorem dX5_answer_5 : decode cX5_answer 5 = .ok (.ldc 44, 2) := by decide +kernel
theorem dX5_answer_7 : decode cX5_answer 7 = .ok (.putfield 45, 3) := by decide +kernel
theorem dX5_answer_10 : decode cX5_answer 10 = .ok (.aload_n 0, 1) := by decide +kernel
theorem dX5_answer_11 : decode cX5_answer 11 = .ok (.invokevirtual 49, 3) := by decide +kernel
theorem dX5_answer_14 : decode cX5_answer 14 = .ok (.istore_n 2, 1) := by decide +kernel
theorem dX5_answer_15 : decode cX5_answer 15 = .ok (.iload_n 2, 1) := by decide +kernel
theorem dX5_answer_16 : decode cX5_answer 16 = .ok (.iconst (-1), 1) := by decide +kernel
theorem dX5_answer_17 : decode cX5_answer 17 = .ok (.if_icmp .eq 9, 3) := by decide +kernel
theorem dX5_answer_20 : decode cX5_answer 20 = .ok (.aload_n 0, 1) := by decide +kernel
theorem dX5_answer_21 : decode cX5_answer 21 = .ok (.iconst 0, 1) := by decide +kernel
theorem dX5_answer_22 : decode cX5_answer 22 = .ok (.iload_n 2, 1) := by decide +kernel
theorem dX5_answer_23 : decode cX5_answer 23 = .ok (.invokevirtual 53, 3) := by decide +kernel
theorem dX5_answer_26 : decode cX5_answer 26 = .ok (.aload_n 0, 1) := by decide +kernel
theorem dX5_answer_27 : decode cX5_answer 27 = .ok (.getfield 45, 3) := by decide +kernel
theorem dX5_answer_30 : decode cX5_answer 30 = .ok (.ldc 44, 2) := by decide +kernel
theorem dX5_answer_32 : decode cX5_answer 32 = .ok (.if_icmp .ne 5, 3) := by decide +kernel
theorem dX5_answer_37 : decode cX5_answer 37 = .ok (.iload_n 1, 1) := by decide +kernel
theorem dX5_answer_38 : decode cX5_answer 38 = .ok (.iconst (-1), 1) := by decide +kernel
theorem dX5_answer_39 : decode cX5_answer 39 = .ok (.if_icmp .ne 8, 3) := by decide +kernel
theorem dX5_answer_42 : decode cX5_answer 42 = .ok (.aload_n 0, 1) := by decide +kernel
theorem dX5_answer_43 : decode cX5_answer 43 = .ok (.getfield 45, 3) := by decide +kernel
theorem dX5_answer_46 : decode cX5_answer 46 = .ok (.ireturn, 1) := by decide +kernel
theorem dX5_answer_47 : decode cX5_answer 47 = .ok (.iload_n 1, 1) := by decide +kernel
theorem dX5_answer_48 : decode cX5_answer 48 = .ok (.ifCond .lt 20, 3) := by decide +kernel
theorem dX5_answer_51 : decode cX5_answer 51 = .ok (.iload_n 1, 1) := by decide +kernel
theorem dX5_answer_52 : decode cX5_answer 52 = .ok (.aload_n 0, 1) := by decide +kernel
theorem dX5_answer_53 : decode cX5_answer 53 = .ok (.getfield 57, 3) := by decide +kernel
theorem dX5_answer_56 : decode cX5_answer 56 = .ok (.if_icmp .ge 12, 3) := by decide +kernel
theorem dX5_answer_68 : decode cX5_answer 68 = .ok (.iconst (-1), 1) := by decide +kernel
theorem dX5_answer_69 : decode cX5_answer 69 = .ok (.ireturn, 1) := by decide +kernel
theorem dX5_daysOf_0 : decode cX5_daysOf 0 = .ok (.aload_n 0, 1) := by decide +kernel
theorem dX5_daysOf_1 : decode cX5_daysOf 1 = .ok (.invokevirtual 41, 3) := by decide +kernel
theorem dX5_daysOf_4 : decode cX5_daysOf 4 = .ok (.aload_n 0, 1) := by decide +kernel
theorem dX5_daysOf_5 : decode cX5_daysOf 5 = .ok (.invokevirtual 49, 3) := by decide +kernel
theorem dX5_daysOf_8 : decode cX5_daysOf 8 = .ok (.istore_n 2, 1) := by decide +kernel
theorem dX5_daysOf_9 : decode cX5_daysOf 9 = .ok (.iload_n 1, 1) := by decide +kernel
theorem dX5_daysOf_10 : decode cX5_daysOf 10 = .ok (.istore_n 3, 1) := by decide +kernel
theorem dX5_daysOf_11 : decode cX5_daysOf 11 = .ok (.iconst 0, 1) := by decide +kernel
theorem dX5_daysOf_12 : decode cX5_daysOf 12 = .ok (.istore 4, 2) := by decide +kernel
theorem dX5_daysOf_14 : decode cX5_daysOf 14 = .ok (.iload 4, 2) := by decide +kernel
theorem dX5_daysOf_16 : decode cX5_daysOf 16 = .ok (.aload_n 0, 1) := by decide +kernel
theorem dX5_daysOf_17 : decode cX5_daysOf 17 = .ok (.getfield 57, 3) := by decide +kernel
theorem dX5_daysOf_20 : decode cX5_daysOf 20 = .ok (.if_icmp .ge 89, 3) := by decide +kernel
theorem dX5_daysOf_109 : decode cX5_daysOf 109 = .ok (.iload_n 3, 1) := by decide +kernel
theorem dX5_daysOf_110 : decode cX5_daysOf 110 = .ok (.ifCond .ne 7, 3) := by decide +kernel
theorem dX5_daysOf_113 : decode cX5_daysOf 113 = .ok (.iload_n 2, 1) := by decide +kernel
theorem dX5_daysOf_114 : decode cX5_daysOf 114 = .ok (.goto 4, 3) := by decide +kernel
theorem dX5_daysOf_117 : decode cX5_daysOf 117 = .ok (.iconst (-1), 1) := by decide +kernel
theorem dX5_daysOf_118 : decode cX5_daysOf 118 = .ok (.ireturn, 1) := by decide +kernel
theorem dX5_daysOfCentre_0 : decode cX5_daysOfCentre 0 = .ok (.iconst 0, 1) := by decide +kernel
theorem dX5_daysOfCentre_1 : decode cX5_daysOfCentre 1 = .ok (.istore_n 1, 1) := by decide +kernel
theorem dX5_daysOfCentre_2 : decode cX5_daysOfCentre 2 = .ok (.iconst 0, 1) := by decide +kernel
theorem dX5_daysOfCentre_3 : decode cX5_daysOfCentre 3 = .ok (.istore_n 2, 1) := by decide +kernel
theorem dX5_daysOfCentre_4 : decode cX5_daysOfCentre 4 = .ok (.iload_n 2, 1) := by decide +kernel
theorem dX5_daysOfCentre_5 : decode cX5_daysOfCentre 5 = .ok (.aload_n 0, 1) := by decide +kernel
theorem dX5_daysOfCentre_6 : decode cX5_daysOfCentre 6 = .ok (.getfield 57, 3) := by decide +kernel
theorem dX5_daysOfCentre_9 : decode cX5_daysOfCentre 9 = .ok (.if_icmp .ge 23, 3) := by decide +kernel
theorem dX5_daysOfCentre_32 : decode cX5_daysOfCentre 32 = .ok (.iload_n 1, 1) := by decide +kernel
theorem dX5_daysOfCentre_33 : decode cX5_daysOfCentre 33 = .ok (.ifCond .ne 5, 3) := by decide +kernel
theorem dX5_daysOfCentre_36 : decode cX5_daysOfCentre 36 = .ok (.iconst 0, 1) := by decide +kernel
theorem dX5_daysOfCentre_37 : decode cX5_daysOfCentre 37 = .ok (.ireturn, 1) := by decide +kernel
theorem dX5_gatherBooks_0 : decode cX5_gatherBooks 0 = .ok (.iconst 0, 1) := by decide +kernel
theorem dX5_gatherBooks_1 : decode cX5_gatherBooks 1 = .ok (.istore_n 1, 1) := by decide +kernel
theorem dX5_gatherBooks_2 : decode cX5_gatherBooks 2 = .ok (.iload_n 1, 1) := by decide +kernel
theorem dX5_gatherBooks_3 : decode cX5_gatherBooks 3 = .ok (.bipush 8, 2) := by decide +kernel
theorem dX5_gatherBooks_5 : decode cX5_gatherBooks 5 = .ok (.if_icmp .ge 16, 3) := by decide +kernel
theorem dX5_gatherBooks_8 : decode cX5_gatherBooks 8 = .ok (.aload_n 0, 1) := by decide +kernel
theorem dX5_gatherBooks_9 : decode cX5_gatherBooks 9 = .ok (.getfield 11, 3) := by decide +kernel
theorem dX5_gatherBooks_12 : decode cX5_gatherBooks 12 = .ok (.iload_n 1, 1) := by decide +kernel
theorem dX5_gatherBooks_13 : decode cX5_gatherBooks 13 = .ok (.iconst 0, 1) := by decide +kernel
theorem dX5_gatherBooks_14 : decode cX5_gatherBooks 14 = .ok (.iastore, 1) := by decide +kernel
theorem dX5_gatherBooks_15 : decode cX5_gatherBooks 15 = .ok (.iinc 1 1, 3) := by decide +kernel
theorem dX5_gatherBooks_18 : decode cX5_gatherBooks 18 = .ok (.goto (-16), 3) := by decide +kernel
theorem dX5_gatherBooks_21 : decode cX5_gatherBooks 21 = .ok (.iconst 0, 1) := by decide +kernel
theorem dX5_gatherBooks_22 : decode cX5_gatherBooks 22 = .ok (.istore_n 1, 1) := by decide +kernel
theorem dX5_gatherBooks_23 : decode cX5_gatherBooks 23 = .ok (.iload_n 1, 1) := by decide +kernel
theorem dX5_gatherBooks_24 : decode cX5_gatherBooks 24 = .ok (.aload_n 0, 1) := by decide +kernel
theorem dX5_gatherBooks_25 : decode cX5_gatherBooks 25 = .ok (.getfield 29, 3) := by decide +kernel
theorem dX5_gatherBooks_28 : decode cX5_gatherBooks 28 = .ok (.invokevirtual 77, 3) := by decide +kernel
theorem dX5_gatherBooks_31 : decode cX5_gatherBooks 31 = .ok (.if_icmp .ge 50, 3) := by decide +kernel
theorem dX5_gatherBooks_81 : decode cX5_gatherBooks 81 = .ok (.aload_n 0, 1) := by decide +kernel
theorem dX5_gatherBooks_82 : decode cX5_gatherBooks 82 = .ok (.iconst 0, 1) := by decide +kernel
theorem dX5_gatherBooks_83 : decode cX5_gatherBooks 83 = .ok (.putfield 57, 3) := by decide +kernel
theorem dX5_gatherBooks_86 : decode cX5_gatherBooks 86 = .ok (.iconst 0, 1) := by decide +kernel
theorem dX5_gatherBooks_87 : decode cX5_gatherBooks 87 = .ok (.istore_n 1, 1) := by decide +kernel
theorem dX5_gatherBooks_88 : decode cX5_gatherBooks 88 = .ok (.iload_n 1, 1) := by decide +kernel
theorem dX5_gatherBooks_89 : decode cX5_gatherBooks 89 = .ok (.bipush 8, 2) := by decide +kernel
theorem dX5_gatherBooks_91 : decode cX5_gatherBooks 91 = .ok (.if_icmp .ge 47, 3) := by decide +kernel
theorem dX5_gatherBooks_94 : decode cX5_gatherBooks 94 = .ok (.aload_n 0, 1) := by decide +kernel
theorem dX5_gatherBooks_95 : decode cX5_gatherBooks 95 = .ok (.getfield 57, 3) := by decide +kernel
theorem dX5_gatherBooks_98 : decode cX5_gatherBooks 98 = .ok (.bipush 6, 2) := by decide +kernel
theorem dX5_gatherBooks_100 : decode cX5_gatherBooks 100 = .ok (.if_icmp .ge 38, 3) := by decide +kernel
theorem dX5_gatherBooks_103 : decode cX5_gatherBooks 103 = .ok (.aload_n 0, 1) := by decide +kernel
theorem dX5_gatherBooks_104 : decode cX5_gatherBooks 104 = .ok (.getfield 11, 3) := by decide +kernel
theorem dX5_gatherBooks_107 : decode cX5_gatherBooks 107 = .ok (.iload_n 1, 1) := by decide +kernel
theorem dX5_gatherBooks_108 : decode cX5_gatherBooks 108 = .ok (.iaload, 1) := by decide +kernel
theorem dX5_gatherBooks_109 : decode cX5_gatherBooks 109 = .ok (.ifCond .le 23, 3) := by decide +kernel
theorem dX5_gatherBooks_132 : decode cX5_gatherBooks 132 = .ok (.iinc 1 1, 3) := by decide +kernel
theorem dX5_gatherBooks_135 : decode cX5_gatherBooks 135 = .ok (.goto (-47), 3) := by decide +kernel
theorem dX5_gatherBooks_138 : decode cX5_gatherBooks 138 = .ok (.iconst 0, 1) := by decide +kernel
theorem dX5_gatherBooks_139 : decode cX5_gatherBooks 139 = .ok (.istore_n 1, 1) := by decide +kernel
theorem dX5_gatherBooks_140 : decode cX5_gatherBooks 140 = .ok (.iload_n 1, 1) := by decide +kernel
theorem dX5_gatherBooks_141 : decode cX5_gatherBooks 141 = .ok (.aload_n 0, 1) := by decide +kernel
theorem dX5_gatherBooks_142 : decode cX5_gatherBooks 142 = .ok (.getfield 20, 3) := by decide +kernel
theorem dX5_gatherBooks_145 : decode cX5_gatherBooks 145 = .ok (.arraylength, 1) := by decide +kernel
theorem dX5_gatherBooks_146 : decode cX5_gatherBooks 146 = .ok (.if_icmp .ge 16, 3) := by decide +kernel
theorem dX5_gatherBooks_149 : decode cX5_gatherBooks 149 = .ok (.aload_n 0, 1) := by decide +kernel
theorem dX5_gatherBooks_150 : decode cX5_gatherBooks 150 = .ok (.getfield 20, 3) := by decide +kernel
theorem dX5_gatherBooks_153 : decode cX5_gatherBooks 153 = .ok (.iload_n 1, 1) := by decide +kernel
theorem dX5_gatherBooks_154 : decode cX5_gatherBooks 154 = .ok (.iconst 0, 1) := by decide +kernel
theorem dX5_gatherBooks_155 : decode cX5_gatherBooks 155 = .ok (.iastore, 1) := by decide +kernel
theorem dX5_gatherBooks_156 : decode cX5_gatherBooks 156 = .ok (.iinc 1 1, 3) := by decide +kernel
theorem dX5_gatherBooks_159 : decode cX5_gatherBooks 159 = .ok (.goto (-19), 3) := by decide +kernel
theorem dX5_gatherBooks_162 : decode cX5_gatherBooks 162 = .ok (.return_, 1) := by decide +kernel
theorem dX5_give_0 : decode cX5_give 0 = .ok (.iload_n 2, 1) := by decide +kernel
theorem dX5_give_1 : decode cX5_give 1 = .ok (.aload_n 0, 1) := by decide +kernel
theorem dX5_give_2 : decode cX5_give 2 = .ok (.getfield 45, 3) := by decide +kernel
theorem dX5_give_5 : decode cX5_give 5 = .ok (.if_icmp .lt 4, 3) := by decide +kernel
theorem dX5_give_9 : decode cX5_give 9 = .ok (.iload_n 1, 1) := by decide +kernel
theorem dX5_give_10 : decode cX5_give 10 = .ok (.aload_n 0, 1) := by decide +kernel
theorem dX5_give_11 : decode cX5_give 11 = .ok (.getfield 57, 3) := by decide +kernel
theorem dX5_give_14 : decode cX5_give 14 = .ok (.if_icmp .lt 37, 3) := by decide +kernel
theorem dX5_give_17 : decode cX5_give 17 = .ok (.aload_n 0, 1) := by decide +kernel
theorem dX5_give_18 : decode cX5_give 18 = .ok (.iload_n 2, 1) := by decide +kernel
theorem dX5_give_19 : decode cX5_give 19 = .ok (.putfield 45, 3) := by decide +kernel
theorem dX5_give_22 : decode cX5_give 22 = .ok (.iconst 0, 1) := by decide +kernel
theorem dX5_give_23 : decode cX5_give 23 = .ok (.istore_n 3, 1) := by decide +kernel
theorem dX5_give_24 : decode cX5_give 24 = .ok (.iload_n 3, 1) := by decide +kernel
theorem dX5_give_25 : decode cX5_give 25 = .ok (.aload_n 0, 1) := by decide +kernel
theorem dX5_give_26 : decode cX5_give 26 = .ok (.getfield 57, 3) := by decide +kernel
theorem dX5_give_29 : decode cX5_give 29 = .ok (.if_icmp .ge 21, 3) := by decide +kernel
theorem dX5_give_50 : decode cX5_give 50 = .ok (.return_, 1) := by decide +kernel
theorem dX8_at_0 : decode cX8_at 0 = .ok (.iload_n 1, 1) := by decide +kernel
theorem dX8_at_1 : decode cX8_at 1 = .ok (.ifCond .lt 20, 3) := by decide +kernel
theorem dX8_at_4 : decode cX8_at 4 = .ok (.iload_n 1, 1) := by decide +kernel
theorem dX8_at_5 : decode cX8_at 5 = .ok (.aload_n 0, 1) := by decide +kernel
theorem dX8_at_6 : decode cX8_at 6 = .ok (.getfield 30, 3) := by decide +kernel
theorem dX8_at_9 : decode cX8_at 9 = .ok (.if_icmp .ge 12, 3) := by decide +kernel
theorem dX8_at_21 : decode cX8_at 21 = .ok (.aconst_null, 1) := by decide +kernel
theorem dX8_at_22 : decode cX8_at 22 = .ok (.areturn, 1) := by decide +kernel
theorem dX8_fixedAt_0 : decode cX8_fixedAt 0 = .ok (.aload_n 0, 1) := by decide +kernel
theorem dX8_fixedAt_1 : decode cX8_fixedAt 1 = .ok (.aload_n 0, 1) := by decide +kernel
theorem dX8_fixedAt_2 : decode cX8_fixedAt 2 = .ok (.iload_n 1, 1) := by decide +kernel
theorem dX8_fixedAt_3 : decode cX8_fixedAt 3 = .ok (.invokevirtual 38, 3) := by decide +kernel
theorem dX8_fixedAt_6 : decode cX8_fixedAt 6 = .ok (.invokevirtual 42, 3) := by decide +kernel
theorem dX8_fixedAt_9 : decode cX8_fixedAt 9 = .ok (.areturn, 1) := by decide +kernel
theorem dX8_fixedNumber_0 : decode cX8_fixedNumber 0 = .ok (.iload_n 1, 1) := by decide +kernel
theorem dX8_fixedNumber_1 : decode cX8_fixedNumber 1 = .ok (.ifCond .lt 18, 3) := by decide +kernel
theorem dX8_fixedNumber_4 : decode cX8_fixedNumber 4 = .ok (.iload_n 1, 1) := by decide +kernel
theorem dX8_fixedNumber_5 : decode cX8_fixedNumber 5 = .ok (.bipush 60, 2) := by decide +kernel
theorem dX8_fixedNumber_7 : decode cX8_fixedNumber 7 = .ok (.if_icmp .ge 12, 3) := by decide +kernel
theorem dX8_fixedNumber_10 : decode cX8_fixedNumber 10 = .ok (.aload_n 0, 1) := by decide +kernel
theorem dX8_fixedNumber_11 : decode cX8_fixedNumber 11 = .ok (.getfield 17, 3) := by decide +kernel
theorem dX8_fixedNumber_14 : decode cX8_fixedNumber 14 = .ok (.iload_n 1, 1) := by decide +kernel
theorem dX8_fixedNumber_15 : decode cX8_fixedNumber 15 = .ok (.iaload, 1) := by decide +kernel
theorem dX8_fixedNumber_16 : decode cX8_fixedNumber 16 = .ok (.goto 4, 3) := by decide +kernel
theorem dX8_fixedNumber_19 : decode cX8_fixedNumber 19 = .ok (.iconst (-1), 1) := by decide +kernel
theorem dX8_fixedNumber_20 : decode cX8_fixedNumber 20 = .ok (.ireturn, 1) := by decide +kernel
theorem dX8_fixedThen_0 : decode cX8_fixedThen 0 = .ok (.aload_n 0, 1) := by decide +kernel
theorem dX8_fixedThen_1 : decode cX8_fixedThen 1 = .ok (.getfield 46, 3) := by decide +kernel
theorem dX8_fixedThen_4 : decode cX8_fixedThen 4 = .ok (.iconst 1, 1) := by decide +kernel
theorem dX8_fixedThen_5 : decode cX8_fixedThen 5 = .ok (.isub, 1) := by decide +kernel
theorem dX8_fixedThen_6 : decode cX8_fixedThen 6 = .ok (.istore_n 3, 1) := by decide +kernel
theorem dX8_fixedThen_7 : decode cX8_fixedThen 7 = .ok (.iload_n 3, 1) := by decide +kernel
theorem dX8_fixedThen_8 : decode cX8_fixedThen 8 = .ok (.ifCond .lt 36, 3) := by decide +kernel
theorem dX8_fixedThen_44 : decode cX8_fixedThen 44 = .ok (.iconst (-1), 1) := by decide +kernel
theorem dX8_fixedThen_45 : decode cX8_fixedThen 45 = .ok (.ireturn, 1) := by decide +kernel
theorem dX8_fixedVerses_0 : decode cX8_fixedVerses 0 = .ok (.iconst 0, 1) := by decide +kernel
theorem dX8_fixedVerses_1 : decode cX8_fixedVerses 1 = .ok (.istore_n 1, 1) := by decide +kernel
theorem dX8_fixedVerses_2 : decode cX8_fixedVerses 2 = .ok (.iconst 0, 1) := by decide +kernel
theorem dX8_fixedVerses_3 : decode cX8_fixedVerses 3 = .ok (.istore_n 2, 1) := by decide +kernel
theorem dX8_fixedVerses_4 : decode cX8_fixedVerses 4 = .ok (.iload_n 2, 1) := by decide +kernel
theorem dX8_fixedVerses_5 : decode cX8_fixedVerses 5 = .ok (.bipush 60, 2) := by decide +kernel
theorem dX8_fixedVerses_7 : decode cX8_fixedVerses 7 = .ok (.if_icmp .ge 22, 3) := by decide +kernel
theorem dX8_fixedVerses_10 : decode cX8_fixedVerses 10 = .ok (.aload_n 0, 1) := by decide +kernel
theorem dX8_fixedVerses_11 : decode cX8_fixedVerses 11 = .ok (.getfield 17, 3) := by decide +kernel
theorem dX8_fixedVerses_14 : decode cX8_fixedVerses 14 = .ok (.iload_n 2, 1) := by decide +kernel
theorem dX8_fixedVerses_15 : decode cX8_fixedVerses 15 = .ok (.iaload, 1) := by decide +kernel
theorem dX8_fixedVerses_16 : decode cX8_fixedVerses 16 = .ok (.iconst (-1), 1) := by decide +kernel
theorem dX8_fixedVerses_17 : decode cX8_fixedVerses 17 = .ok (.if_icmp .eq 6, 3) := by decide +kernel
theorem dX8_fixedVerses_23 : decode cX8_fixedVerses 23 = .ok (.iinc 2 1, 3) := by decide +kernel
theorem dX8_fixedVerses_26 : decode cX8_fixedVerses 26 = .ok (.goto (-22), 3) := by decide +kernel
theorem dX8_fixedVerses_29 : decode cX8_fixedVerses 29 = .ok (.iload_n 1, 1) := by decide +kernel
theorem dX8_fixedVerses_30 : decode cX8_fixedVerses 30 = .ok (.ireturn, 1) := by decide +kernel
theorem dX8_inState_0 : decode cX8_inState 0 = .ok (.iconst 0, 1) := by decide +kernel
theorem dX8_inState_1 : decode cX8_inState 1 = .ok (.istore_n 2, 1) := by decide +kernel
theorem dX8_inState_2 : decode cX8_inState 2 = .ok (.iconst 0, 1) := by decide +kernel
theorem dX8_inState_3 : decode cX8_inState 3 = .ok (.istore_n 3, 1) := by decide +kernel
theorem dX8_inState_4 : decode cX8_inState 4 = .ok (.iload_n 3, 1) := by decide +kernel
theorem dX8_inState_5 : decode cX8_inState 5 = .ok (.aload_n 0, 1) := by decide +kernel
theorem dX8_inState_6 : decode cX8_inState 6 = .ok (.getfield 30, 3) := by decide +kernel
theorem dX8_inState_9 : decode cX8_inState 9 = .ok (.if_icmp .ge 34, 3) := by decide +kernel
theorem dX8_inState_43 : decode cX8_inState 43 = .ok (.iload_n 2, 1) := by decide +kernel
theorem dX8_inState_44 : decode cX8_inState 44 = .ok (.ireturn, 1) := by decide +kernel
theorem dX8_size_0 : decode cX8_size 0 = .ok (.aload_n 0, 1) := by decide +kernel
theorem dX8_size_1 : decode cX8_size 1 = .ok (.getfield 30, 3) := by decide +kernel
theorem dX8_size_4 : decode cX8_size 4 = .ok (.ireturn, 1) := by decide +kernel
theorem dX9_enter_0 : decode cX9_enter 0 = .ok (.aload_n 0, 1) := by decide +kernel
theorem dX9_enter_1 : decode cX9_enter 1 = .ok (.getfield 29, 3) := by decide +kernel
theorem dX9_enter_4 : decode cX9_enter 4 = .ok (.bipush 60, 2) := by decide +kernel
theorem dX9_enter_6 : decode cX9_enter 6 = .ok (.if_icmp .lt 5, 3) := by decide +kernel
theorem dX9_enter_11 : decode cX9_enter 11 = .ok (.aload_n 0, 1) := by decide +kernel
theorem dX9_enter_12 : decode cX9_enter 12 = .ok (.getfield 9, 3) := by decide +kernel
theorem dX9_enter_15 : decode cX9_enter 15 = .ok (.aload_n 0, 1) := by decide +kernel
theorem dX9_enter_16 : decode cX9_enter 16 = .ok (.getfield 29, 3) := by decide +kernel
theorem dX9_enter_19 : decode cX9_enter 19 = .ok (.iload_n 1, 1) := by decide +kernel
theorem dX9_enter_20 : decode cX9_enter 20 = .ok (.iastore, 1) := by decide +kernel
theorem dX9_enter_21 : decode cX9_enter 21 = .ok (.aload_n 0, 1) := by decide +kernel
theorem dX9_enter_22 : decode cX9_enter 22 = .ok (.getfield 15, 3) := by decide +kernel
theorem dX9_enter_25 : decode cX9_enter 25 = .ok (.aload_n 0, 1) := by decide +kernel
theorem dX9_enter_26 : decode cX9_enter 26 = .ok (.getfield 29, 3) := by decide +kernel
theorem dX9_enter_29 : decode cX9_enter 29 = .ok (.iload_n 2, 1) := by decide +kernel
theorem dX9_enter_30 : decode cX9_enter 30 = .ok (.iastore, 1) := by decide +kernel
theorem dX9_enter_31 : decode cX9_enter 31 = .ok (.aload_n 0, 1) := by decide +kernel
theorem dX9_enter_32 : decode cX9_enter 32 = .ok (.dup, 1) := by decide +kernel
theorem dX9_enter_33 : decode cX9_enter 33 = .ok (.getfield 29, 3) := by decide +kernel
theorem dX9_enter_36 : decode cX9_enter 36 = .ok (.iconst 1, 1) := by decide +kernel
theorem dX9_enter_37 : decode cX9_enter 37 = .ok (.iadd, 1) := by decide +kernel
theorem dX9_enter_38 : decode cX9_enter 38 = .ok (.putfield 29, 3) := by decide +kernel
theorem dX9_enter_41 : decode cX9_enter 41 = .ok (.aload_n 0, 1) := by decide +kernel
theorem dX9_enter_42 : decode cX9_enter 42 = .ok (.getfield 29, 3) := by decide +kernel
theorem dX9_enter_45 : decode cX9_enter 45 = .ok (.iconst 1, 1) := by decide +kernel
theorem dX9_enter_46 : decode cX9_enter 46 = .ok (.isub, 1) := by decide +kernel
theorem dX9_enter_47 : decode cX9_enter 47 = .ok (.ireturn, 1) := by decide +kernel
theorem dX9_has_0 : decode cX9_has 0 = .ok (.iload_n 1, 1) := by decide +kernel
theorem dX9_has_1 : decode cX9_has 1 = .ok (.ifCond .lt 15, 3) := by decide +kernel
theorem dX9_has_4 : decode cX9_has 4 = .ok (.iload_n 1, 1) := by decide +kernel
theorem dX9_has_5 : decode cX9_has 5 = .ok (.aload_n 0, 1) := by decide +kernel
theorem dX9_has_6 : decode cX9_has 6 = .ok (.getfield 29, 3) := by decide +kernel
theorem dX9_has_9 : decode cX9_has 9 = .ok (.if_icmp .ge 7, 3) := by decide +kernel
theorem dX9_has_16 : decode cX9_has 16 = .ok (.iconst 0, 1) := by decide +kernel
theorem dX9_has_17 : decode cX9_has 17 = .ok (.ireturn, 1) := by decide +kernel
theorem dX9_size_0 : decode cX9_size 0 = .ok (.aload_n 0, 1) := by decide +kernel
theorem dX9_size_1 : decode cX9_size 1 = .ok (.getfield 29, 3) := by decide +kernel
theorem dX9_size_4 : decode cX9_size 4 = .ok (.ireturn, 1) := by decide +kernel
set_option maxHeartbeats 4000000 in
set_option maxRecDepth 100000 in
theorem x_11_isDay (l : Launch) (D : va_G) (ct : Nat → ClassId) (tN : Nat) (ad : Nat → Nat) (iv : Nat → Int32) (ia : Nat → Nat → Int32) (la : Nat → Nat → Int64) (pt : Nat → Option Nat) (ra : Nat → Nat → Option Nat) (R : va_W) (p0 : Int32)  : MI l D (TY ct) tN yX11_isDay cX11_isDay 1 (some .boolean) ({ frames := 0, cells := 0, slots := 0, locals := 0 } : Room) [.int p0] (XW ct ad iv ia la pt ra R) (fun (v : Int32) (u : Unit) => (0 ≤ p0.toInt ∧ p0.toInt ≤ 3999 ∧ v.toInt = 1) ∨ ((p0.toInt < 0 ∨ 3999 < p0.toInt) ∧ v.toInt = 0)) (fun _ => XW ct ad iv ia la pt ra R) 0 0 := by
  intro sz
  refine Met.ofE (Qc := fun A => va_Qi (fun (v : Int32) (u : Unit) => (0 ≤ p0.toInt ∧ p0.toInt ≤ 3999 ∧ v.toInt = 1) ∨ ((p0.toInt < 0 ∨ 3999 < p0.toInt) ∧ v.toInt = 0)) (BW D A (fun _ => XW ct ad iv ia la pt ra R)) A) (by decide) (Nat.le_of_ble_eq_true rfl) ?_
  intro p e s m args below meth c A ls hsz E hr hlk hnm B hl
  have hl : lv_has ls 1 [(0, .int p0)] := hl
  refine lv_iload_n E.1.1 E.1.2.1 dX11_isDay_0 rfl (lv_at hl 0 rfl) ?_
  refine b_lt (tgt := 15) E rfl dX11_isDay_1 (by decide) (fun c_1 => ?_) (fun c_1 => ?_)
  · skip
    refine lv_iconst (v := 0) E.1.1 E.1.2.1 dX11_isDay_15 (by decide) ?_
    have r_2 : (0 : Int32).toInt = 0 := tI_0
    exact ret_I (u := ()) E hr hlk (narrow_z (by omega)) B (by omega) dX11_isDay_16
  · skip
    refine lv_iload_n E.1.1 E.1.2.1 dX11_isDay_4 rfl (lv_at hl 0 rfl) ?_
    refine lv_sipush (v := 3999) E.1.1 E.1.2.1 dX11_isDay_5 (by decide) ?_
    refine c_gt (tgt := 15) E rfl tI_3999 dX11_isDay_8 (by decide) (fun c_3 => ?_) (fun c_3 => ?_)
    · skip
      refine lv_iconst (v := 0) E.1.1 E.1.2.1 dX11_isDay_15 (by decide) ?_
      have r_4 : (0 : Int32).toInt = 0 := tI_0
      exact ret_I (u := ()) E hr hlk (narrow_z (by omega)) B (by omega) dX11_isDay_16
    · skip
      refine lv_iconst (v := 1) E.1.1 E.1.2.1 dX11_isDay_11 (by decide) ?_
      refine lv_goto (tgt := 16) E.1.1 E.1.2.1 dX11_isDay_12 (by decide) ?_
      have r_5 : (1 : Int32).toInt = 1 := tI_1
      exact ret_I (u := ()) E hr hlk (narrow_z (by omega)) B (by omega) dX11_isDay_16
set_option maxHeartbeats 4000000 in
set_option maxRecDepth 100000 in
theorem x_11_isRate (l : Launch) (D : va_G) (ct : Nat → ClassId) (tN : Nat) (ad : Nat → Nat) (iv : Nat → Int32) (ia : Nat → Nat → Int32) (la : Nat → Nat → Int64) (pt : Nat → Option Nat) (ra : Nat → Nat → Option Nat) (R : va_W) (p0 : Int32)  : MI l D (TY ct) tN yX11_isRate cX11_isRate 1 (some .boolean) ({ frames := 0, cells := 0, slots := 0, locals := 0 } : Room) [.int p0] (XW ct ad iv ia la pt ra R) (fun (v : Int32) (u : Unit) => (0 ≤ p0.toInt ∧ p0.toInt ≤ 99 ∧ v.toInt = 1) ∨ ((p0.toInt < 0 ∨ 99 < p0.toInt) ∧ v.toInt = 0)) (fun _ => XW ct ad iv ia la pt ra R) 0 0 := by
  intro sz
  refine Met.ofE (Qc := fun A => va_Qi (fun (v : Int32) (u : Unit) => (0 ≤ p0.toInt ∧ p0.toInt ≤ 99 ∧ v.toInt = 1) ∨ ((p0.toInt < 0 ∨ 99 < p0.toInt) ∧ v.toInt = 0)) (BW D A (fun _ => XW ct ad iv ia la pt ra R)) A) (by decide) (Nat.le_of_ble_eq_true rfl) ?_
  intro p e s m args below meth c A ls hsz E hr hlk hnm B hl
  have hl : lv_has ls 1 [(0, .int p0)] := hl
  refine lv_iload_n E.1.1 E.1.2.1 dX11_isRate_0 rfl (lv_at hl 0 rfl) ?_
  refine b_lt (tgt := 14) E rfl dX11_isRate_1 (by decide) (fun c_1 => ?_) (fun c_1 => ?_)
  · skip
    refine lv_iconst (v := 0) E.1.1 E.1.2.1 dX11_isRate_14 (by decide) ?_
    have r_2 : (0 : Int32).toInt = 0 := tI_0
    exact ret_I (u := ()) E hr hlk (narrow_z (by omega)) B (by omega) dX11_isRate_15
  · skip
    refine lv_iload_n E.1.1 E.1.2.1 dX11_isRate_4 rfl (lv_at hl 0 rfl) ?_
    refine lv_bipush (v := 99) E.1.1 E.1.2.1 dX11_isRate_5 (by decide) ?_
    refine c_gt (tgt := 14) E rfl tI_99 dX11_isRate_7 (by decide) (fun c_3 => ?_) (fun c_3 => ?_)
    · skip
      refine lv_iconst (v := 0) E.1.1 E.1.2.1 dX11_isRate_14 (by decide) ?_
      have r_4 : (0 : Int32).toInt = 0 := tI_0
      exact ret_I (u := ()) E hr hlk (narrow_z (by omega)) B (by omega) dX11_isRate_15
    · skip
      refine lv_iconst (v := 1) E.1.1 E.1.2.1 dX11_isRate_10 (by decide) ?_
      refine lv_goto (tgt := 15) E.1.1 E.1.2.1 dX11_isRate_11 (by decide) ?_
      have r_5 : (1 : Int32).toInt = 1 := tI_1
      exact ret_I (u := ()) E hr hlk (narrow_z (by omega)) B (by omega) dX11_isRate_15
set_option maxHeartbeats 4000000 in
set_option maxRecDepth 100000 in
theorem x_11_isSign (l : Launch) (D : va_G) (ct : Nat → ClassId) (tN : Nat) (ad : Nat → Nat) (iv : Nat → Int32) (ia : Nat → Nat → Int32) (la : Nat → Nat → Int64) (pt : Nat → Option Nat) (ra : Nat → Nat → Option Nat) (R : va_W) (p0 : Int32)  : MI l D (TY ct) tN yX11_isSign cX11_isSign 1 (some .boolean) ({ frames := 0, cells := 0, slots := 0, locals := 0 } : Room) [.int p0] (XW ct ad iv ia la pt ra R) (fun (v : Int32) (u : Unit) => (0 ≤ p0.toInt ∧ p0.toInt ≤ 39 ∧ v.toInt = 1) ∨ ((p0.toInt < 0 ∨ 39 < p0.toInt) ∧ v.toInt = 0)) (fun _ => XW ct ad iv ia la pt ra R) 0 0 := by
  intro sz
  refine Met.ofE (Qc := fun A => va_Qi (fun (v : Int32) (u : Unit) => (0 ≤ p0.toInt ∧ p0.toInt ≤ 39 ∧ v.toInt = 1) ∨ ((p0.toInt < 0 ∨ 39 < p0.toInt) ∧ v.toInt = 0)) (BW D A (fun _ => XW ct ad iv ia la pt ra R)) A) (by decide) (Nat.le_of_ble_eq_true rfl) ?_
  intro p e s m args below meth c A ls hsz E hr hlk hnm B hl
  have hl : lv_has ls 1 [(0, .int p0)] := hl
  refine lv_iload_n E.1.1 E.1.2.1 dX11_isSign_0 rfl (lv_at hl 0 rfl) ?_
  refine b_lt (tgt := 14) E rfl dX11_isSign_1 (by decide) (fun c_1 => ?_) (fun c_1 => ?_)
  · skip
    refine lv_iconst (v := 0) E.1.1 E.1.2.1 dX11_isSign_14 (by decide) ?_
    have r_2 : (0 : Int32).toInt = 0 := tI_0
    exact ret_I (u := ()) E hr hlk (narrow_z (by omega)) B (by omega) dX11_isSign_15
  · skip
    refine lv_iload_n E.1.1 E.1.2.1 dX11_isSign_4 rfl (lv_at hl 0 rfl) ?_
    refine lv_bipush (v := 40) E.1.1 E.1.2.1 dX11_isSign_5 (by decide) ?_
    refine c_ge (tgt := 14) E rfl tI_40 dX11_isSign_7 (by decide) (fun c_3 => ?_) (fun c_3 => ?_)
    · skip
      refine lv_iconst (v := 0) E.1.1 E.1.2.1 dX11_isSign_14 (by decide) ?_
      have r_4 : (0 : Int32).toInt = 0 := tI_0
      exact ret_I (u := ()) E hr hlk (narrow_z (by omega)) B (by omega) dX11_isSign_15
    · skip
      refine lv_iconst (v := 1) E.1.1 E.1.2.1 dX11_isSign_10 (by decide) ?_
      refine lv_goto (tgt := 15) E.1.1 E.1.2.1 dX11_isSign_11 (by decide) ?_
      have r_5 : (1 : Int32).toInt = 1 := tI_1
      exact ret_I (u := ()) E hr hlk (narrow_z (by omega)) B (by omega) dX11_isSign_15
set_option maxHeartbeats 4000000 in
set_option maxRecDepth 100000 in
theorem x_11_isEdition (l : Launch) (D : va_G) (ct : Nat → ClassId) (tN : Nat) (ad : Nat → Nat) (iv : Nat → Int32) (ia : Nat → Nat → Int32) (la : Nat → Nat → Int64) (pt : Nat → Option Nat) (ra : Nat → Nat → Option Nat) (R : va_W) (p0 : Int32)  : MI l D (TY ct) tN yX11_isEdition cX11_isEdition 1 (some .boolean) ({ frames := 0, cells := 0, slots := 0, locals := 0 } : Room) [.int p0] (XW ct ad iv ia la pt ra R) (fun (v : Int32) (u : Unit) => (0 ≤ p0.toInt ∧ p0.toInt ≤ 3 ∧ v.toInt = 1) ∨ ((p0.toInt < 0 ∨ 3 < p0.toInt) ∧ v.toInt = 0)) (fun _ => XW ct ad iv ia la pt ra R) 0 0 := by
  intro sz
  refine Met.ofE (Qc := fun A => va_Qi (fun (v : Int32) (u : Unit) => (0 ≤ p0.toInt ∧ p0.toInt ≤ 3 ∧ v.toInt = 1) ∨ ((p0.toInt < 0 ∨ 3 < p0.toInt) ∧ v.toInt = 0)) (BW D A (fun _ => XW ct ad iv ia la pt ra R)) A) (by decide) (Nat.le_of_ble_eq_true rfl) ?_
  intro p e s m args below meth c A ls hsz E hr hlk hnm B hl
  have hl : lv_has ls 1 [(0, .int p0)] := hl
  refine lv_iload_n E.1.1 E.1.2.1 dX11_isEdition_0 rfl (lv_at hl 0 rfl) ?_
  refine b_lt (tgt := 13) E rfl dX11_isEdition_1 (by decide) (fun c_1 => ?_) (fun c_1 => ?_)
  · skip
    refine lv_iconst (v := 0) E.1.1 E.1.2.1 dX11_isEdition_13 (by decide) ?_
    have r_2 : (0 : Int32).toInt = 0 := tI_0
    exact ret_I (u := ()) E hr hlk (narrow_z (by omega)) B (by omega) dX11_isEdition_14
  · skip
    refine lv_iload_n E.1.1 E.1.2.1 dX11_isEdition_4 rfl (lv_at hl 0 rfl) ?_
    refine lv_iconst (v := 4) E.1.1 E.1.2.1 dX11_isEdition_5 (by decide) ?_
    refine c_ge (tgt := 13) E rfl tI_4 dX11_isEdition_6 (by decide) (fun c_3 => ?_) (fun c_3 => ?_)
    · skip
      refine lv_iconst (v := 0) E.1.1 E.1.2.1 dX11_isEdition_13 (by decide) ?_
      have r_4 : (0 : Int32).toInt = 0 := tI_0
      exact ret_I (u := ()) E hr hlk (narrow_z (by omega)) B (by omega) dX11_isEdition_14
    · skip
      refine lv_iconst (v := 1) E.1.1 E.1.2.1 dX11_isEdition_9 (by decide) ?_
      refine lv_goto (tgt := 14) E.1.1 E.1.2.1 dX11_isEdition_10 (by decide) ?_
      have r_5 : (1 : Int32).toInt = 1 := tI_1
      exact ret_I (u := ()) E hr hlk (narrow_z (by omega)) B (by omega) dX11_isEdition_14
set_option maxHeartbeats 4000000 in
set_option maxRecDepth 100000 in
theorem x_11_isPastDay (l : Launch) (D : va_G) (ct : Nat → ClassId) (tN : Nat) (ad : Nat → Nat) (iv : Nat → Int32) (ia : Nat → Nat → Int32) (la : Nat → Nat → Int64) (pt : Nat → Option Nat) (ra : Nat → Nat → Option Nat) (R : va_W) (p0 : Int32) (h1 : (iv 1).toInt = 0) : MI l D (TY ct) tN yX11_isPastDay cX11_isPastDay 2 (some .boolean) ({ frames := 0, cells := 0, slots := 0, locals := 0 } : Room) [.ref (ad 0), .int p0] (XW ct ad iv ia la pt ra R) (fun (v : Int32) (u : Unit) => (p0.toInt = 0 ∧ v.toInt = 1) ∨ (¬ p0.toInt = 0 ∧ v.toInt = 0)) (fun _ => XW ct ad iv ia la pt ra R) 0 0 := by
  intro sz
  refine Met.ofE (Qc := fun A => va_Qi (fun (v : Int32) (u : Unit) => (p0.toInt = 0 ∧ v.toInt = 1) ∨ (¬ p0.toInt = 0 ∧ v.toInt = 0)) (BW D A (fun _ => XW ct ad iv ia la pt ra R)) A) (by decide) (Nat.le_of_ble_eq_true rfl) ?_
  intro p e s m args below meth c A ls hsz E hr hlk hnm B hl
  have hl : lv_has ls 2 [(0, .ref (ad 0)), (1, .int p0)] := hl
  refine lv_iload_n E.1.1 E.1.2.1 dX11_isPastDay_0 rfl (lv_at hl 1 rfl) ?_
  refine b_lt (tgt := 16) E rfl dX11_isPastDay_1 (by decide) (fun c_1 => ?_) (fun c_1 => ?_)
  · skip
    refine lv_iconst (v := 0) E.1.1 E.1.2.1 dX11_isPastDay_16 (by decide) ?_
    have r_2 : (0 : Int32).toInt = 0 := tI_0
    exact ret_I (u := ()) E hr hlk (narrow_z (by omega)) B (by omega) dX11_isPastDay_17
  · skip
    refine lv_iload_n E.1.1 E.1.2.1 dX11_isPastDay_4 rfl (lv_at hl 1 rfl) ?_
    refine lv_aload_n E.1.1 E.1.2.1 dX11_isPastDay_5 rfl (lv_at hl 0 rfl) ?_
    refine row_get (v := .int (iv 1)) E B iX11 rfl 13 (by decide) mw_398 0 rfl rfl dX11_isPastDay_6 ?_
    refine c_gt (tgt := 16) E rfl h1 dX11_isPastDay_9 (by decide) (fun c_3 => ?_) (fun c_3 => ?_)
    · skip
      refine lv_iconst (v := 0) E.1.1 E.1.2.1 dX11_isPastDay_16 (by decide) ?_
      have r_4 : (0 : Int32).toInt = 0 := tI_0
      exact ret_I (u := ()) E hr hlk (narrow_z (by omega)) B (by omega) dX11_isPastDay_17
    · skip
      refine lv_iconst (v := 1) E.1.1 E.1.2.1 dX11_isPastDay_12 (by decide) ?_
      refine lv_goto (tgt := 17) E.1.1 E.1.2.1 dX11_isPastDay_13 (by decide) ?_
      have r_5 : (1 : Int32).toInt = 1 := tI_1
      exact ret_I (u := ()) E hr hlk (narrow_z (by omega)) B (by omega) dX11_isPastDay_17
set_option maxHeartbeats 4000000 in
set_option maxRecDepth 100000 in
theorem x_11_tapeHas (l : Launch) (D : va_G) (ct : Nat → ClassId) (tN : Nat) (ad : Nat → Nat) (iv : Nat → Int32) (ia : Nat → Nat → Int32) (la : Nat → Nat → Int64) (pt : Nat → Option Nat) (ra : Nat → Nat → Option Nat) (R : va_W) (p0 : Int32) (p1 : Int32) (h0 : (iv 0).toInt = 0) : MI l D (TY ct) tN yX11_tapeHas cX11_tapeHas 3 (some .boolean) ({ frames := 0, cells := 0, slots := 0, locals := 0 } : Room) [.ref (ad 0), .int p0, .int p1] (XW ct ad iv ia la pt ra R) (fun (v : Int32) (u : Unit) => v.toInt = 0) (fun _ => XW ct ad iv ia la pt ra R) 0 0 := by
  intro sz
  refine Met.ofE (Qc := fun A => va_Qi (fun (v : Int32) (u : Unit) => v.toInt = 0) (BW D A (fun _ => XW ct ad iv ia la pt ra R)) A) (by decide) (Nat.le_of_ble_eq_true rfl) ?_
  intro p e s m args below meth c A ls hsz E hr hlk hnm B hl
  have hl : lv_has ls 3 [(0, .ref (ad 0)), (1, .int p0), (2, .int p1)] := hl
  refine lv_iload_n E.1.1 E.1.2.1 dX11_tapeHas_0 rfl (lv_at hl 1 rfl) ?_
  refine lv_iconst (v := 1) E.1.1 E.1.2.1 dX11_tapeHas_1 (by decide) ?_
  refine c_lt (tgt := 22) E rfl tI_1 dX11_tapeHas_2 (by decide) (fun c_1 => ?_) (fun c_1 => ?_)
  · skip
    refine lv_iconst (v := 0) E.1.1 E.1.2.1 dX11_tapeHas_22 (by decide) ?_
    have r_2 : (0 : Int32).toInt = 0 := tI_0
    exact ret_I (u := ()) E hr hlk (narrow_z (by omega)) B (by omega) dX11_tapeHas_23
  · skip
    refine lv_iload_n E.1.1 E.1.2.1 dX11_tapeHas_5 rfl (lv_at hl 1 rfl) ?_
    refine lv_iload_n E.1.1 E.1.2.1 dX11_tapeHas_6 rfl (lv_at hl 2 rfl) ?_
    refine c_gt (tgt := 22) E rfl rfl dX11_tapeHas_7 (by decide) (fun c_3 => ?_) (fun c_3 => ?_)
    · skip
      refine lv_iconst (v := 0) E.1.1 E.1.2.1 dX11_tapeHas_22 (by decide) ?_
      have r_4 : (0 : Int32).toInt = 0 := tI_0
      exact ret_I (u := ()) E hr hlk (narrow_z (by omega)) B (by omega) dX11_tapeHas_23
    · skip
      refine lv_iload_n E.1.1 E.1.2.1 dX11_tapeHas_10 rfl (lv_at hl 1 rfl) ?_
      refine lv_aload_n E.1.1 E.1.2.1 dX11_tapeHas_11 rfl (lv_at hl 0 rfl) ?_
      refine row_get (v := .int (iv 0)) E B iX11 rfl 12 (by decide) mw_397 0 rfl rfl dX11_tapeHas_12 ?_
      refine c_gt (tgt := 22) E rfl h0 dX11_tapeHas_15 (by decide) (fun c_5 => ?_) (fun c_5 => ?_)
      · skip
        refine lv_iconst (v := 0) E.1.1 E.1.2.1 dX11_tapeHas_22 (by decide) ?_
        have r_6 : (0 : Int32).toInt = 0 := tI_0
        exact ret_I (u := ()) E hr hlk (narrow_z (by omega)) B (by omega) dX11_tapeHas_23
      · exfalso; omega
set_option maxHeartbeats 4000000 in
set_option maxRecDepth 100000 in
theorem x_9_has (l : Launch) (D : va_G) (ct : Nat → ClassId) (tN : Nat) (ad : Nat → Nat) (iv : Nat → Int32) (ia : Nat → Nat → Int32) (la : Nat → Nat → Int64) (pt : Nat → Option Nat) (ra : Nat → Nat → Option Nat) (R : va_W) (p0 : Int32) (h3 : (iv 3).toInt = 0) : MI l D (TY ct) tN yX9_has cX9_has 2 (some .boolean) ({ frames := 0, cells := 0, slots := 0, locals := 0 } : Room) [.ref (ad 6), .int p0] (XW ct ad iv ia la pt ra R) (fun (v : Int32) (u : Unit) => v.toInt = 0) (fun _ => XW ct ad iv ia la pt ra R) 0 0 := by
  intro sz
  refine Met.ofE (Qc := fun A => va_Qi (fun (v : Int32) (u : Unit) => v.toInt = 0) (BW D A (fun _ => XW ct ad iv ia la pt ra R)) A) (by decide) (Nat.le_of_ble_eq_true rfl) ?_
  intro p e s m args below meth c A ls hsz E hr hlk hnm B hl
  have hl : lv_has ls 2 [(0, .ref (ad 6)), (1, .int p0)] := hl
  refine lv_iload_n E.1.1 E.1.2.1 dX9_has_0 rfl (lv_at hl 1 rfl) ?_
  refine b_lt (tgt := 16) E rfl dX9_has_1 (by decide) (fun c_1 => ?_) (fun c_1 => ?_)
  · skip
    refine lv_iconst (v := 0) E.1.1 E.1.2.1 dX9_has_16 (by decide) ?_
    have r_2 : (0 : Int32).toInt = 0 := tI_0
    exact ret_I (u := ()) E hr hlk (narrow_z (by omega)) B (by omega) dX9_has_17
  · skip
    refine lv_iload_n E.1.1 E.1.2.1 dX9_has_4 rfl (lv_at hl 1 rfl) ?_
    refine lv_aload_n E.1.1 E.1.2.1 dX9_has_5 rfl (lv_at hl 0 rfl) ?_
    refine row_get (v := .int (iv 3)) E B iX9 rfl 5 (by decide) mw_55 6 rfl rfl dX9_has_6 ?_
    refine c_ge (tgt := 16) E rfl h3 dX9_has_9 (by decide) (fun c_3 => ?_) (fun c_3 => ?_)
    · skip
      refine lv_iconst (v := 0) E.1.1 E.1.2.1 dX9_has_16 (by decide) ?_
      have r_4 : (0 : Int32).toInt = 0 := tI_0
      exact ret_I (u := ()) E hr hlk (narrow_z (by omega)) B (by omega) dX9_has_17
    · exfalso; omega
set_option maxHeartbeats 4000000 in
set_option maxRecDepth 100000 in
theorem x_9_size (l : Launch) (D : va_G) (ct : Nat → ClassId) (tN : Nat) (ad : Nat → Nat) (iv : Nat → Int32) (ia : Nat → Nat → Int32) (la : Nat → Nat → Int64) (pt : Nat → Option Nat) (ra : Nat → Nat → Option Nat) (R : va_W)  (h3 : (iv 3).toInt = 0) : MI l D (TY ct) tN yX9_size cX9_size 1 (some .int) ({ frames := 0, cells := 0, slots := 0, locals := 0 } : Room) [.ref (ad 6)] (XW ct ad iv ia la pt ra R) (fun (v : Int32) (u : Unit) => v.toInt = 0) (fun _ => XW ct ad iv ia la pt ra R) 0 0 := by
  intro sz
  refine Met.ofE (Qc := fun A => va_Qi (fun (v : Int32) (u : Unit) => v.toInt = 0) (BW D A (fun _ => XW ct ad iv ia la pt ra R)) A) (by decide) (Nat.le_of_ble_eq_true rfl) ?_
  intro p e s m args below meth c A ls hsz E hr hlk hnm B hl
  have hl : lv_has ls 1 [(0, .ref (ad 6))] := hl
  refine lv_aload_n E.1.1 E.1.2.1 dX9_size_0 rfl (lv_at hl 0 rfl) ?_
  refine row_get (v := .int (iv 3)) E B iX9 rfl 5 (by decide) mw_55 6 rfl rfl dX9_size_1 ?_
  have r_1 : (iv 3).toInt = 0 := h3
  exact ret_I (u := ()) E hr hlk rfl B (by omega) dX9_size_4
set_option maxHeartbeats 4000000 in
set_option maxRecDepth 100000 in
theorem x_9_enter (l : Launch) (D : va_G) (ct : Nat → ClassId) (tN : Nat) (ad : Nat → Nat) (iv : Nat → Int32) (ia : Nat → Nat → Int32) (la : Nat → Nat → Int64) (pt : Nat → Option Nat) (ra : Nat → Nat → Option Nat) (R : va_W) (p0 : Int32) (p1 : Int32) (h3 : (iv 3).toInt = 0) : MI l D (TY ct) tN yX9_enter cX9_enter 3 (some .int) ({ frames := 0, cells := 0, slots := 0, locals := 0 } : Room) [.ref (ad 6), .int p0, .int p1] (XW ct ad iv ia la pt ra R) (fun (v : Int32) (u : va_W) => v.toInt = 0) (fun u => u) 0 0 := by
  intro sz
  refine Met.ofE (Qc := fun A => va_Qi (fun (v : Int32) (u : va_W) => v.toInt = 0) (BW D A (fun u => u)) A) (by decide) (Nat.le_of_ble_eq_true rfl) ?_
  intro p e s m args below meth c A ls hsz E hr hlk hnm B hl
  have hl : lv_has ls 3 [(0, .ref (ad 6)), (1, .int p0), (2, .int p1)] := hl
  refine lv_aload_n E.1.1 E.1.2.1 dX9_enter_0 rfl (lv_at hl 0 rfl) ?_
  refine row_get (v := .int (iv 3)) E B iX9 rfl 5 (by decide) mw_55 6 rfl rfl dX9_enter_1 ?_
  refine lv_bipush (v := 60) E.1.1 E.1.2.1 dX9_enter_4 (by decide) ?_
  refine c_lt (tgt := 11) E h3 tI_60 dX9_enter_6 (by decide) (fun c_1 => ?_) (fun c_1 => ?_)
  · skip
    refine lv_aload_n E.1.1 E.1.2.1 dX9_enter_11 rfl (lv_at hl 0 rfl) ?_
    refine row_get (v := .ref (ad 7)) E B iX9 rfl 0 (by decide) mw_50 6 rfl rfl dX9_enter_12 ?_
    refine lv_aload_n E.1.1 E.1.2.1 dX9_enter_15 rfl (lv_at hl 0 rfl) ?_
    refine row_get (v := .int (iv 3)) E B iX9 rfl 5 (by decide) mw_55 6 rfl rfl dX9_enter_16 ?_
    refine lv_iload_n E.1.1 E.1.2.1 dX9_enter_19 rfl (lv_at hl 1 rfl) ?_
    refine row_iast E B 7 rfl (vp_of h3 (by omega) (by omega)) dX9_enter_20 (fun H locs B => ?_)
    have B := Hp.eq (sx_ia_7 ct ad iv ia la pt ra R (upd (ia 7) (iv 3).toNatClampNeg p0)) B
    generalize va_up ia 7 (upd (ia 7) (iv 3).toNatClampNeg p0) = ia_2 at B 
    refine at_pc (n := 21) rfl ?_
    refine lv_aload_n E.1.1 E.1.2.1 dX9_enter_21 rfl (lv_at hl 0 rfl) ?_
    refine row_get (v := .ref (ad 8)) E B iX9 rfl 1 (by decide) mw_51 6 rfl rfl dX9_enter_22 ?_
    refine lv_aload_n E.1.1 E.1.2.1 dX9_enter_25 rfl (lv_at hl 0 rfl) ?_
    refine row_get (v := .int (iv 3)) E B iX9 rfl 5 (by decide) mw_55 6 rfl rfl dX9_enter_26 ?_
    refine lv_iload_n E.1.1 E.1.2.1 dX9_enter_29 rfl (lv_at hl 2 rfl) ?_
    refine row_iast E B 8 rfl (vp_of h3 (by omega) (by omega)) dX9_enter_30 (fun H locs B => ?_)
    have B := Hp.eq (sx_ia_8 ct ad iv ia_2 la pt ra R (upd (ia_2 8) (iv 3).toNatClampNeg p1)) B
    generalize va_up ia_2 8 (upd (ia_2 8) (iv 3).toNatClampNeg p1) = ia_3 at B 
    refine at_pc (n := 31) rfl ?_
    refine lv_aload_n E.1.1 E.1.2.1 dX9_enter_31 rfl (lv_at hl 0 rfl) ?_
    refine lv_dup E.1.1 E.1.2.1 dX9_enter_32 rfl ?_
    refine row_get (v := .int (iv 3)) E B iX9 rfl 5 (by decide) mw_55 6 rfl rfl dX9_enter_33 ?_
    refine lv_iconst (v := 1) E.1.1 E.1.2.1 dX9_enter_36 (by decide) ?_
    refine i_add E h3 tI_1 (by omega) (by omega) dX9_enter_37 (fun z_4 ez_4 => ?_)
    have ez_4 : z_4.toInt = 1 := by omega
    refine row_put E B iX9 rfl tyX9 tyX9_ok nmX9 5 (by decide) mw_55 rfl 6 rfl rfl rfl (Nat.le_of_ble_eq_true rfl) dX9_enter_38 (fun H locs B => ?_)
    have B := Hp.eq (sx_iv_3 ct ad iv ia_3 la pt ra R z_4) B
    have h_6 : ((va_up iv 3 z_4) 3).toInt = 1 := ez_4
    generalize va_up iv 3 z_4 = iv_5 at B h_6
    refine at_pc (n := 41) rfl ?_
    refine lv_aload_n E.1.1 E.1.2.1 dX9_enter_41 rfl (lv_at hl 0 rfl) ?_
    refine row_get (v := .int (iv_5 3)) E B iX9 rfl 5 (by decide) mw_55 6 rfl rfl dX9_enter_42 ?_
    refine lv_iconst (v := 1) E.1.1 E.1.2.1 dX9_enter_45 (by decide) ?_
    refine i_sub E h_6 tI_1 (by omega) (by omega) dX9_enter_46 (fun z_7 ez_7 => ?_)
    have ez_7 : z_7.toInt = 0 := by omega
    have r_8 : z_7.toInt = 0 := ez_7
    exact ret_I (u := _) E hr hlk rfl B (by omega) dX9_enter_47
  · exfalso; omega
set_option maxHeartbeats 4000000 in
set_option maxRecDepth 100000 in
theorem x_10_has (l : Launch) (D : va_G) (ct : Nat → ClassId) (tN : Nat) (ad : Nat → Nat) (iv : Nat → Int32) (ia : Nat → Nat → Int32) (la : Nat → Nat → Int64) (pt : Nat → Option Nat) (ra : Nat → Nat → Option Nat) (R : va_W) (p0 : Int32) (h2 : (iv 2).toInt = 0) : MI l D (TY ct) tN yX10_has cX10_has 2 (some .boolean) ({ frames := 0, cells := 0, slots := 0, locals := 0 } : Room) [.ref (ad 3), .int p0] (XW ct ad iv ia la pt ra R) (fun (v : Int32) (u : Unit) => v.toInt = 0) (fun _ => XW ct ad iv ia la pt ra R) 0 0 := by
  intro sz
  refine Met.ofE (Qc := fun A => va_Qi (fun (v : Int32) (u : Unit) => v.toInt = 0) (BW D A (fun _ => XW ct ad iv ia la pt ra R)) A) (by decide) (Nat.le_of_ble_eq_true rfl) ?_
  intro p e s m args below meth c A ls hsz E hr hlk hnm B hl
  have hl : lv_has ls 2 [(0, .ref (ad 3)), (1, .int p0)] := hl
  refine lv_iload_n E.1.1 E.1.2.1 dX10_has_0 rfl (lv_at hl 1 rfl) ?_
  refine b_lt (tgt := 16) E rfl dX10_has_1 (by decide) (fun c_1 => ?_) (fun c_1 => ?_)
  · skip
    refine lv_iconst (v := 0) E.1.1 E.1.2.1 dX10_has_16 (by decide) ?_
    have r_2 : (0 : Int32).toInt = 0 := tI_0
    exact ret_I (u := ()) E hr hlk (narrow_z (by omega)) B (by omega) dX10_has_17
  · skip
    refine lv_iload_n E.1.1 E.1.2.1 dX10_has_4 rfl (lv_at hl 1 rfl) ?_
    refine lv_aload_n E.1.1 E.1.2.1 dX10_has_5 rfl (lv_at hl 0 rfl) ?_
    refine row_get (v := .int (iv 2)) E B iX10 rfl 2 (by decide) mw_32 3 rfl rfl dX10_has_6 ?_
    refine c_ge (tgt := 16) E rfl h2 dX10_has_9 (by decide) (fun c_3 => ?_) (fun c_3 => ?_)
    · skip
      refine lv_iconst (v := 0) E.1.1 E.1.2.1 dX10_has_16 (by decide) ?_
      have r_4 : (0 : Int32).toInt = 0 := tI_0
      exact ret_I (u := ()) E hr hlk (narrow_z (by omega)) B (by omega) dX10_has_17
    · exfalso; omega
set_option maxHeartbeats 4000000 in
set_option maxRecDepth 100000 in
theorem x_10_size (l : Launch) (D : va_G) (ct : Nat → ClassId) (tN : Nat) (ad : Nat → Nat) (iv : Nat → Int32) (ia : Nat → Nat → Int32) (la : Nat → Nat → Int64) (pt : Nat → Option Nat) (ra : Nat → Nat → Option Nat) (R : va_W)  (h2 : (iv 2).toInt = 0) : MI l D (TY ct) tN yX10_size cX10_size 1 (some .int) ({ frames := 0, cells := 0, slots := 0, locals := 0 } : Room) [.ref (ad 3)] (XW ct ad iv ia la pt ra R) (fun (v : Int32) (u : Unit) => v.toInt = 0) (fun _ => XW ct ad iv ia la pt ra R) 0 0 := by
  intro sz
  refine Met.ofE (Qc := fun A => va_Qi (fun (v : Int32) (u : Unit) => v.toInt = 0) (BW D A (fun _ => XW ct ad iv ia la pt ra R)) A) (by decide) (Nat.le_of_ble_eq_true rfl) ?_
  intro p e s m args below meth c A ls hsz E hr hlk hnm B hl
  have hl : lv_has ls 1 [(0, .ref (ad 3))] := hl
  refine lv_aload_n E.1.1 E.1.2.1 dX10_size_0 rfl (lv_at hl 0 rfl) ?_
  refine row_get (v := .int (iv 2)) E B iX10 rfl 2 (by decide) mw_32 3 rfl rfl dX10_size_1 ?_
  have r_1 : (iv 2).toInt = 0 := h2
  exact ret_I (u := ()) E hr hlk rfl B (by omega) dX10_size_4
set_option maxHeartbeats 4000000 in
set_option maxRecDepth 100000 in
theorem x_4_enterCompany (l : Launch) (D : va_G) (ct : Nat → ClassId) (tN : Nat) (ad : Nat → Nat) (iv : Nat → Int32) (ia : Nat → Nat → Int32) (la : Nat → Nat → Int64) (pt : Nat → Option Nat) (ra : Nat → Nat → Option Nat) (R : va_W) (p0 : Int32) (p1 : Int32) (h6 : (iv 6).toInt = 0) : MI l D (TY ct) tN yX4_enterCompany cX4_enterCompany 3 (some .int) ({ frames := 0, cells := 0, slots := 0, locals := 0 } : Room) [.ref (ad 12), .int p0, .int p1] (XW ct ad iv ia la pt ra R) (fun (v : Int32) (u : va_W) => v.toInt = 0) (fun u => u) 0 0 := by
  intro sz
  refine Met.ofE (Qc := fun A => va_Qi (fun (v : Int32) (u : va_W) => v.toInt = 0) (BW D A (fun u => u)) A) (by decide) (Nat.le_of_ble_eq_true rfl) ?_
  intro p e s m args below meth c A ls hsz E hr hlk hnm B hl
  have hl : lv_has ls 3 [(0, .ref (ad 12)), (1, .int p0), (2, .int p1)] := hl
  refine lv_aload_n E.1.1 E.1.2.1 dX4_enterCompany_0 rfl (lv_at hl 0 rfl) ?_
  refine row_get (v := .int (iv 6)) E B iX4 rfl 5 (by decide) mw_80 12 rfl rfl dX4_enterCompany_1 ?_
  refine lv_bipush (v := 6) E.1.1 E.1.2.1 dX4_enterCompany_4 (by decide) ?_
  refine c_lt (tgt := 11) E h6 tI_6 dX4_enterCompany_6 (by decide) (fun c_1 => ?_) (fun c_1 => ?_)
  · skip
    refine lv_aload_n E.1.1 E.1.2.1 dX4_enterCompany_11 rfl (lv_at hl 0 rfl) ?_
    refine row_get (v := .ref (ad 13)) E B iX4 rfl 0 (by decide) mw_75 12 rfl rfl dX4_enterCompany_12 ?_
    refine lv_aload_n E.1.1 E.1.2.1 dX4_enterCompany_15 rfl (lv_at hl 0 rfl) ?_
    refine row_get (v := .int (iv 6)) E B iX4 rfl 5 (by decide) mw_80 12 rfl rfl dX4_enterCompany_16 ?_
    refine lv_iload_n E.1.1 E.1.2.1 dX4_enterCompany_19 rfl (lv_at hl 1 rfl) ?_
    refine row_iast E B 13 rfl (vp_of h6 (by omega) (by omega)) dX4_enterCompany_20 (fun H locs B => ?_)
    have B := Hp.eq (sx_ia_13 ct ad iv ia la pt ra R (upd (ia 13) (iv 6).toNatClampNeg p0)) B
    generalize va_up ia 13 (upd (ia 13) (iv 6).toNatClampNeg p0) = ia_2 at B 
    refine at_pc (n := 21) rfl ?_
    refine lv_aload_n E.1.1 E.1.2.1 dX4_enterCompany_21 rfl (lv_at hl 0 rfl) ?_
    refine row_get (v := .ref (ad 14)) E B iX4 rfl 1 (by decide) mw_76 12 rfl rfl dX4_enterCompany_22 ?_
    refine lv_aload_n E.1.1 E.1.2.1 dX4_enterCompany_25 rfl (lv_at hl 0 rfl) ?_
    refine row_get (v := .int (iv 6)) E B iX4 rfl 5 (by decide) mw_80 12 rfl rfl dX4_enterCompany_26 ?_
    refine lv_iload_n E.1.1 E.1.2.1 dX4_enterCompany_29 rfl (lv_at hl 2 rfl) ?_
    refine row_iast E B 14 rfl (vp_of h6 (by omega) (by omega)) dX4_enterCompany_30 (fun H locs B => ?_)
    have B := Hp.eq (sx_ia_14 ct ad iv ia_2 la pt ra R (upd (ia_2 14) (iv 6).toNatClampNeg p1)) B
    generalize va_up ia_2 14 (upd (ia_2 14) (iv 6).toNatClampNeg p1) = ia_3 at B 
    refine at_pc (n := 31) rfl ?_
    refine lv_aload_n E.1.1 E.1.2.1 dX4_enterCompany_31 rfl (lv_at hl 0 rfl) ?_
    refine lv_dup E.1.1 E.1.2.1 dX4_enterCompany_32 rfl ?_
    refine row_get (v := .int (iv 6)) E B iX4 rfl 5 (by decide) mw_80 12 rfl rfl dX4_enterCompany_33 ?_
    refine lv_iconst (v := 1) E.1.1 E.1.2.1 dX4_enterCompany_36 (by decide) ?_
    refine i_add E h6 tI_1 (by omega) (by omega) dX4_enterCompany_37 (fun z_4 ez_4 => ?_)
    have ez_4 : z_4.toInt = 1 := by omega
    refine row_put E B iX4 rfl tyX4 tyX4_ok nmX4 5 (by decide) mw_80 rfl 12 rfl rfl rfl (Nat.le_of_ble_eq_true rfl) dX4_enterCompany_38 (fun H locs B => ?_)
    have B := Hp.eq (sx_iv_6 ct ad iv ia_3 la pt ra R z_4) B
    have h_6 : ((va_up iv 6 z_4) 6).toInt = 1 := ez_4
    generalize va_up iv 6 z_4 = iv_5 at B h_6
    refine at_pc (n := 41) rfl ?_
    refine lv_aload_n E.1.1 E.1.2.1 dX4_enterCompany_41 rfl (lv_at hl 0 rfl) ?_
    refine row_get (v := .int (iv_5 6)) E B iX4 rfl 5 (by decide) mw_80 12 rfl rfl dX4_enterCompany_42 ?_
    refine lv_iconst (v := 1) E.1.1 E.1.2.1 dX4_enterCompany_45 (by decide) ?_
    refine i_sub E h_6 tI_1 (by omega) (by omega) dX4_enterCompany_46 (fun z_7 ez_7 => ?_)
    have ez_7 : z_7.toInt = 0 := by omega
    have r_8 : z_7.toInt = 0 := ez_7
    exact ret_I (u := _) E hr hlk rfl B (by omega) dX4_enterCompany_47
  · exfalso; omega
set_option maxHeartbeats 4000000 in
set_option maxRecDepth 100000 in
theorem x_4_setCentreRate (l : Launch) (D : va_G) (ct : Nat → ClassId) (tN : Nat) (ad : Nat → Nat) (iv : Nat → Int32) (ia : Nat → Nat → Int32) (la : Nat → Nat → Int64) (pt : Nat → Option Nat) (ra : Nat → Nat → Option Nat) (R : va_W) (p0 : Int32)  : MV l D (TY ct) tN yX4_setCentreRate cX4_setCentreRate 2 ({ frames := 0, cells := 0, slots := 0, locals := 0 } : Room) [.ref (ad 12), .int p0] (XW ct ad iv ia la pt ra R) (fun (u : va_W) => True) (fun u => u) 0 0 := by
  intro sz
  refine Met.ofE (Qc := fun A => va_Qv (fun (u : va_W) => True) (BW D A (fun u => u)) A) (by decide) (Nat.le_of_ble_eq_true rfl) ?_
  intro p e s m args below meth c A ls hsz E hr hlk hnm B hl
  have hl : lv_has ls 2 [(0, .ref (ad 12)), (1, .int p0)] := hl
  refine lv_aload_n E.1.1 E.1.2.1 dX4_setCentreRate_0 rfl (lv_at hl 0 rfl) ?_
  refine lv_iload_n E.1.1 E.1.2.1 dX4_setCentreRate_1 rfl (lv_at hl 1 rfl) ?_
  refine row_put E B iX4 rfl tyX4 tyX4_ok nmX4 4 (by decide) mw_79 rfl 12 rfl rfl rfl (Nat.le_of_ble_eq_true rfl) dX4_setCentreRate_2 (fun H locs B => ?_)
  have B := Hp.eq (sx_iv_5 ct ad iv ia la pt ra R p0) B
  have h_2 : ((va_up iv 5 p0) 5).toInt = p0.toInt := rfl
  generalize va_up iv 5 p0 = iv_1 at B h_2
  exact ret_V (u := _) E hr hlk B trivial dX4_setCentreRate_5
set_option maxHeartbeats 4000000 in
set_option maxRecDepth 100000 in
theorem x_4_hasCompany (l : Launch) (D : va_G) (ct : Nat → ClassId) (tN : Nat) (ad : Nat → Nat) (iv : Nat → Int32) (ia : Nat → Nat → Int32) (la : Nat → Nat → Int64) (pt : Nat → Option Nat) (ra : Nat → Nat → Option Nat) (R : va_W) (p0 : Int32) (h6 : (iv 6).toInt = 0) : MI l D (TY ct) tN yX4_hasCompany cX4_hasCompany 2 (some .boolean) ({ frames := 0, cells := 0, slots := 0, locals := 0 } : Room) [.ref (ad 12), .int p0] (XW ct ad iv ia la pt ra R) (fun (v : Int32) (u : Unit) => v.toInt = 0) (fun _ => XW ct ad iv ia la pt ra R) 0 0 := by
  intro sz
  refine Met.ofE (Qc := fun A => va_Qi (fun (v : Int32) (u : Unit) => v.toInt = 0) (BW D A (fun _ => XW ct ad iv ia la pt ra R)) A) (by decide) (Nat.le_of_ble_eq_true rfl) ?_
  intro p e s m args below meth c A ls hsz E hr hlk hnm B hl
  have hl : lv_has ls 2 [(0, .ref (ad 12)), (1, .int p0)] := hl
  refine lv_iload_n E.1.1 E.1.2.1 dX4_hasCompany_0 rfl (lv_at hl 1 rfl) ?_
  refine b_lt (tgt := 16) E rfl dX4_hasCompany_1 (by decide) (fun c_1 => ?_) (fun c_1 => ?_)
  · skip
    refine lv_iconst (v := 0) E.1.1 E.1.2.1 dX4_hasCompany_16 (by decide) ?_
    have r_2 : (0 : Int32).toInt = 0 := tI_0
    exact ret_I (u := ()) E hr hlk (narrow_z (by omega)) B (by omega) dX4_hasCompany_17
  · skip
    refine lv_iload_n E.1.1 E.1.2.1 dX4_hasCompany_4 rfl (lv_at hl 1 rfl) ?_
    refine lv_aload_n E.1.1 E.1.2.1 dX4_hasCompany_5 rfl (lv_at hl 0 rfl) ?_
    refine row_get (v := .int (iv 6)) E B iX4 rfl 5 (by decide) mw_80 12 rfl rfl dX4_hasCompany_6 ?_
    refine c_ge (tgt := 16) E rfl h6 dX4_hasCompany_9 (by decide) (fun c_3 => ?_) (fun c_3 => ?_)
    · skip
      refine lv_iconst (v := 0) E.1.1 E.1.2.1 dX4_hasCompany_16 (by decide) ?_
      have r_4 : (0 : Int32).toInt = 0 := tI_0
      exact ret_I (u := ()) E hr hlk (narrow_z (by omega)) B (by omega) dX4_hasCompany_17
    · exfalso; omega
set_option maxHeartbeats 4000000 in
set_option maxRecDepth 100000 in
theorem x_4_hasScholar (l : Launch) (D : va_G) (ct : Nat → ClassId) (tN : Nat) (ad : Nat → Nat) (iv : Nat → Int32) (ia : Nat → Nat → Int32) (la : Nat → Nat → Int64) (pt : Nat → Option Nat) (ra : Nat → Nat → Option Nat) (R : va_W) (p0 : Int32) (h7 : (iv 7).toInt = 0) : MI l D (TY ct) tN yX4_hasScholar cX4_hasScholar 2 (some .boolean) ({ frames := 0, cells := 0, slots := 0, locals := 0 } : Room) [.ref (ad 12), .int p0] (XW ct ad iv ia la pt ra R) (fun (v : Int32) (u : Unit) => v.toInt = 0) (fun _ => XW ct ad iv ia la pt ra R) 0 0 := by
  intro sz
  refine Met.ofE (Qc := fun A => va_Qi (fun (v : Int32) (u : Unit) => v.toInt = 0) (BW D A (fun _ => XW ct ad iv ia la pt ra R)) A) (by decide) (Nat.le_of_ble_eq_true rfl) ?_
  intro p e s m args below meth c A ls hsz E hr hlk hnm B hl
  have hl : lv_has ls 2 [(0, .ref (ad 12)), (1, .int p0)] := hl
  refine lv_iload_n E.1.1 E.1.2.1 dX4_hasScholar_0 rfl (lv_at hl 1 rfl) ?_
  refine b_lt (tgt := 16) E rfl dX4_hasScholar_1 (by decide) (fun c_1 => ?_) (fun c_1 => ?_)
  · skip
    refine lv_iconst (v := 0) E.1.1 E.1.2.1 dX4_hasScholar_16 (by decide) ?_
    have r_2 : (0 : Int32).toInt = 0 := tI_0
    exact ret_I (u := ()) E hr hlk (narrow_z (by omega)) B (by omega) dX4_hasScholar_17
  · skip
    refine lv_iload_n E.1.1 E.1.2.1 dX4_hasScholar_4 rfl (lv_at hl 1 rfl) ?_
    refine lv_aload_n E.1.1 E.1.2.1 dX4_hasScholar_5 rfl (lv_at hl 0 rfl) ?_
    refine row_get (v := .int (iv 7)) E B iX4 rfl 6 (by decide) mw_81 12 rfl rfl dX4_hasScholar_6 ?_
    refine c_ge (tgt := 16) E rfl h7 dX4_hasScholar_9 (by decide) (fun c_3 => ?_) (fun c_3 => ?_)
    · skip
      refine lv_iconst (v := 0) E.1.1 E.1.2.1 dX4_hasScholar_16 (by decide) ?_
      have r_4 : (0 : Int32).toInt = 0 := tI_0
      exact ret_I (u := ()) E hr hlk (narrow_z (by omega)) B (by omega) dX4_hasScholar_17
    · exfalso; omega
set_option maxHeartbeats 4000000 in
set_option maxRecDepth 100000 in
theorem x_4_companies (l : Launch) (D : va_G) (ct : Nat → ClassId) (tN : Nat) (ad : Nat → Nat) (iv : Nat → Int32) (ia : Nat → Nat → Int32) (la : Nat → Nat → Int64) (pt : Nat → Option Nat) (ra : Nat → Nat → Option Nat) (R : va_W)  (h6 : (iv 6).toInt = 0) : MI l D (TY ct) tN yX4_companies cX4_companies 1 (some .int) ({ frames := 0, cells := 0, slots := 0, locals := 0 } : Room) [.ref (ad 12)] (XW ct ad iv ia la pt ra R) (fun (v : Int32) (u : Unit) => v.toInt = 0) (fun _ => XW ct ad iv ia la pt ra R) 0 0 := by
  intro sz
  refine Met.ofE (Qc := fun A => va_Qi (fun (v : Int32) (u : Unit) => v.toInt = 0) (BW D A (fun _ => XW ct ad iv ia la pt ra R)) A) (by decide) (Nat.le_of_ble_eq_true rfl) ?_
  intro p e s m args below meth c A ls hsz E hr hlk hnm B hl
  have hl : lv_has ls 1 [(0, .ref (ad 12))] := hl
  refine lv_aload_n E.1.1 E.1.2.1 dX4_companies_0 rfl (lv_at hl 0 rfl) ?_
  refine row_get (v := .int (iv 6)) E B iX4 rfl 5 (by decide) mw_80 12 rfl rfl dX4_companies_1 ?_
  have r_1 : (iv 6).toInt = 0 := h6
  exact ret_I (u := ()) E hr hlk rfl B (by omega) dX4_companies_4
set_option maxHeartbeats 4000000 in
set_option maxRecDepth 100000 in
theorem x_4_scholars (l : Launch) (D : va_G) (ct : Nat → ClassId) (tN : Nat) (ad : Nat → Nat) (iv : Nat → Int32) (ia : Nat → Nat → Int32) (la : Nat → Nat → Int64) (pt : Nat → Option Nat) (ra : Nat → Nat → Option Nat) (R : va_W)  (h7 : (iv 7).toInt = 0) : MI l D (TY ct) tN yX4_scholars cX4_scholars 1 (some .int) ({ frames := 0, cells := 0, slots := 0, locals := 0 } : Room) [.ref (ad 12)] (XW ct ad iv ia la pt ra R) (fun (v : Int32) (u : Unit) => v.toInt = 0) (fun _ => XW ct ad iv ia la pt ra R) 0 0 := by
  intro sz
  refine Met.ofE (Qc := fun A => va_Qi (fun (v : Int32) (u : Unit) => v.toInt = 0) (BW D A (fun _ => XW ct ad iv ia la pt ra R)) A) (by decide) (Nat.le_of_ble_eq_true rfl) ?_
  intro p e s m args below meth c A ls hsz E hr hlk hnm B hl
  have hl : lv_has ls 1 [(0, .ref (ad 12))] := hl
  refine lv_aload_n E.1.1 E.1.2.1 dX4_scholars_0 rfl (lv_at hl 0 rfl) ?_
  refine row_get (v := .int (iv 7)) E B iX4 rfl 6 (by decide) mw_81 12 rfl rfl dX4_scholars_1 ?_
  have r_1 : (iv 7).toInt = 0 := h7
  exact ret_I (u := ()) E hr hlk rfl B (by omega) dX4_scholars_4
set_option maxHeartbeats 4000000 in
set_option maxRecDepth 100000 in
theorem x_2_isFull (l : Launch) (D : va_G) (ct : Nat → ClassId) (tN : Nat) (ad : Nat → Nat) (iv : Nat → Int32) (ia : Nat → Nat → Int32) (la : Nat → Nat → Int64) (pt : Nat → Option Nat) (ra : Nat → Nat → Option Nat) (R : va_W)  (h9 : (iv 9).toInt = 0) : MI l D (TY ct) tN yX2_isFull cX2_isFull 1 (some .boolean) ({ frames := 0, cells := 0, slots := 0, locals := 0 } : Room) [.ref (ad 16)] (XW ct ad iv ia la pt ra R) (fun (v : Int32) (u : Unit) => v.toInt = 0) (fun _ => XW ct ad iv ia la pt ra R) 0 0 := by
  intro sz
  refine Met.ofE (Qc := fun A => va_Qi (fun (v : Int32) (u : Unit) => v.toInt = 0) (BW D A (fun _ => XW ct ad iv ia la pt ra R)) A) (by decide) (Nat.le_of_ble_eq_true rfl) ?_
  intro p e s m args below meth c A ls hsz E hr hlk hnm B hl
  have hl : lv_has ls 1 [(0, .ref (ad 16))] := hl
  refine lv_aload_n E.1.1 E.1.2.1 dX2_isFull_0 rfl (lv_at hl 0 rfl) ?_
  refine row_get (v := .int (iv 9)) E B iX2 rfl 10 (by decide) mw_117 16 rfl rfl dX2_isFull_1 ?_
  refine lv_bipush (v := 20) E.1.1 E.1.2.1 dX2_isFull_4 (by decide) ?_
  refine c_lt (tgt := 13) E h9 tI_20 dX2_isFull_6 (by decide) (fun c_1 => ?_) (fun c_1 => ?_)
  · skip
    refine lv_iconst (v := 0) E.1.1 E.1.2.1 dX2_isFull_13 (by decide) ?_
    have r_2 : (0 : Int32).toInt = 0 := tI_0
    exact ret_I (u := ()) E hr hlk (narrow_z (by omega)) B (by omega) dX2_isFull_14
  · exfalso; omega
set_option maxHeartbeats 4000000 in
set_option maxRecDepth 100000 in
theorem x_2_size (l : Launch) (D : va_G) (ct : Nat → ClassId) (tN : Nat) (ad : Nat → Nat) (iv : Nat → Int32) (ia : Nat → Nat → Int32) (la : Nat → Nat → Int64) (pt : Nat → Option Nat) (ra : Nat → Nat → Option Nat) (R : va_W)  (h9 : (iv 9).toInt = 0) : MI l D (TY ct) tN yX2_size cX2_size 1 (some .int) ({ frames := 0, cells := 0, slots := 0, locals := 0 } : Room) [.ref (ad 16)] (XW ct ad iv ia la pt ra R) (fun (v : Int32) (u : Unit) => v.toInt = 0) (fun _ => XW ct ad iv ia la pt ra R) 0 0 := by
  intro sz
  refine Met.ofE (Qc := fun A => va_Qi (fun (v : Int32) (u : Unit) => v.toInt = 0) (BW D A (fun _ => XW ct ad iv ia la pt ra R)) A) (by decide) (Nat.le_of_ble_eq_true rfl) ?_
  intro p e s m args below meth c A ls hsz E hr hlk hnm B hl
  have hl : lv_has ls 1 [(0, .ref (ad 16))] := hl
  refine lv_aload_n E.1.1 E.1.2.1 dX2_size_0 rfl (lv_at hl 0 rfl) ?_
  refine row_get (v := .int (iv 9)) E B iX2 rfl 10 (by decide) mw_117 16 rfl rfl dX2_size_1 ?_
  have r_1 : (iv 9).toInt = 0 := h9
  exact ret_I (u := ()) E hr hlk rfl B (by omega) dX2_size_4
set_option maxHeartbeats 4000000 in
set_option maxRecDepth 100000 in
theorem x_2_clausesOf (l : Launch) (D : va_G) (ct : Nat → ClassId) (tN : Nat) (ad : Nat → Nat) (iv : Nat → Int32) (ia : Nat → Nat → Int32) (la : Nat → Nat → Int64) (pt : Nat → Option Nat) (ra : Nat → Nat → Option Nat) (R : va_W) (p0 : Int32) (h9 : (iv 9).toInt = 0) : MI l D (TY ct) tN yX2_clausesOf cX2_clausesOf 2 (some .int) ({ frames := 0, cells := 0, slots := 0, locals := 0 } : Room) [.ref (ad 16), .int p0] (XW ct ad iv ia la pt ra R) (fun (v : Int32) (u : Unit) => v.toInt = 0) (fun _ => XW ct ad iv ia la pt ra R) 0 0 := by
  intro sz
  refine Met.ofE (Qc := fun A => va_Qi (fun (v : Int32) (u : Unit) => v.toInt = 0) (BW D A (fun _ => XW ct ad iv ia la pt ra R)) A) (by decide) (Nat.le_of_ble_eq_true rfl) ?_
  intro p e s m args below meth c A ls hsz E hr hlk hnm B hl
  have hl : lv_has ls 2 [(0, .ref (ad 16)), (1, .int p0)] := hl
  refine lv_iload_n E.1.1 E.1.2.1 dX2_clausesOf_0 rfl (lv_at hl 1 rfl) ?_
  refine b_lt (tgt := 21) E rfl dX2_clausesOf_1 (by decide) (fun c_1 => ?_) (fun c_1 => ?_)
  · skip
    refine lv_iconst (v := 0) E.1.1 E.1.2.1 dX2_clausesOf_21 (by decide) ?_
    have r_2 : (0 : Int32).toInt = 0 := tI_0
    exact ret_I (u := ()) E hr hlk rfl B (by omega) dX2_clausesOf_22
  · skip
    refine lv_iload_n E.1.1 E.1.2.1 dX2_clausesOf_4 rfl (lv_at hl 1 rfl) ?_
    refine lv_aload_n E.1.1 E.1.2.1 dX2_clausesOf_5 rfl (lv_at hl 0 rfl) ?_
    refine row_get (v := .int (iv 9)) E B iX2 rfl 10 (by decide) mw_117 16 rfl rfl dX2_clausesOf_6 ?_
    refine c_ge (tgt := 21) E rfl h9 dX2_clausesOf_9 (by decide) (fun c_3 => ?_) (fun c_3 => ?_)
    · skip
      refine lv_iconst (v := 0) E.1.1 E.1.2.1 dX2_clausesOf_21 (by decide) ?_
      have r_4 : (0 : Int32).toInt = 0 := tI_0
      exact ret_I (u := ()) E hr hlk rfl B (by omega) dX2_clausesOf_22
    · exfalso; omega
set_option maxHeartbeats 4000000 in
set_option maxRecDepth 100000 in
theorem x_2_hasClause (l : Launch) (D : va_G) (ct : Nat → ClassId) (tN : Nat) (ad : Nat → Nat) (iv : Nat → Int32) (ia : Nat → Nat → Int32) (la : Nat → Nat → Int64) (pt : Nat → Option Nat) (ra : Nat → Nat → Option Nat) (R : va_W) (p0 : Int32) (p1 : Int32) (h9 : (iv 9).toInt = 0) : MI l D (TY ct) tN yX2_hasClause cX2_hasClause 3 (some .boolean) ({ frames := 1, cells := 0, slots := 0, locals := 21 } : Room) [.ref (ad 16), .int p0, .int p1] (XW ct ad iv ia la pt ra R) (fun (v : Int32) (u : Unit) => v.toInt = 0) (fun _ => XW ct ad iv ia la pt ra R) 0 0 := by
  intro sz
  refine Met.ofE (Qc := fun A => va_Qi (fun (v : Int32) (u : Unit) => v.toInt = 0) (BW D A (fun _ => XW ct ad iv ia la pt ra R)) A) (by decide) (Nat.le_of_ble_eq_true rfl) ?_
  intro p e s m args below meth c A ls hsz E hr hlk hnm B hl
  have hl : lv_has ls 3 [(0, .ref (ad 16)), (1, .int p0), (2, .int p1)] := hl
  refine lv_iload_n E.1.1 E.1.2.1 dX2_hasClause_0 rfl (lv_at hl 2 rfl) ?_
  refine b_lt (tgt := 17) E rfl dX2_hasClause_1 (by decide) (fun c_1 => ?_) (fun c_1 => ?_)
  · skip
    refine lv_iconst (v := 0) E.1.1 E.1.2.1 dX2_hasClause_17 (by decide) ?_
    have r_2 : (0 : Int32).toInt = 0 := tI_0
    exact ret_I (u := ()) E hr hlk (narrow_z (by omega)) B (by omega) dX2_hasClause_18
  · skip
    refine lv_iload_n E.1.1 E.1.2.1 dX2_hasClause_4 rfl (lv_at hl 2 rfl) ?_
    refine lv_aload_n E.1.1 E.1.2.1 dX2_hasClause_5 rfl (lv_at hl 0 rfl) ?_
    refine lv_iload_n E.1.1 E.1.2.1 dX2_hasClause_6 rfl (lv_at hl 1 rfl) ?_
    refine call_VI (kn := 1) E B (x_2_clausesOf l D ct tN ad iv ia la pt ra R  p0 h9) (good_V mw_690 mw_691 mw_692 mw_5 mw_693) 16 rfl rfl ⟨rfl, by decide +kernel⟩ rfl rfl rfl ⟨by decide, by decide⟩ rfl hl (Nat.le_of_ble_eq_true rfl) dX2_hasClause_7 ⟨Nat.le_of_ble_eq_true rfl, Nat.le_of_ble_eq_true rfl⟩ (fun v_3 u_4 H locs w_5 B => ?_)
    have w_5 : v_3.toInt = 0 := w_5
    have B : Hp D A s.heap (XW ct ad iv ia la pt ra R) H locs := B
    refine at_n (n := 10) (k1 := 0) (k2 := 0) rfl rfl rfl ?_
    refine c_ge (tgt := 17) E rfl w_5 dX2_hasClause_10 (by decide) (fun c_6 => ?_) (fun c_6 => ?_)
    · skip
      refine lv_iconst (v := 0) E.1.1 E.1.2.1 dX2_hasClause_17 (by decide) ?_
      have r_7 : (0 : Int32).toInt = 0 := tI_0
      exact ret_I (u := ()) E hr hlk (narrow_z (by omega)) B (by omega) dX2_hasClause_18
    · exfalso; omega
set_option maxHeartbeats 4000000 in
set_option maxRecDepth 100000 in
theorem x_8_size (l : Launch) (D : va_G) (ct : Nat → ClassId) (tN : Nat) (ad : Nat → Nat) (iv : Nat → Int32) (ia : Nat → Nat → Int32) (la : Nat → Nat → Int64) (pt : Nat → Option Nat) (ra : Nat → Nat → Option Nat) (R : va_W)  (h10 : (iv 10).toInt = 0) : MI l D (TY ct) tN yX8_size cX8_size 1 (some .int) ({ frames := 0, cells := 0, slots := 0, locals := 0 } : Room) [.ref (ad 27)] (XW ct ad iv ia la pt ra R) (fun (v : Int32) (u : Unit) => v.toInt = 0) (fun _ => XW ct ad iv ia la pt ra R) 0 0 := by
  intro sz
  refine Met.ofE (Qc := fun A => va_Qi (fun (v : Int32) (u : Unit) => v.toInt = 0) (BW D A (fun _ => XW ct ad iv ia la pt ra R)) A) (by decide) (Nat.le_of_ble_eq_true rfl) ?_
  intro p e s m args below meth c A ls hsz E hr hlk hnm B hl
  have hl : lv_has ls 1 [(0, .ref (ad 27))] := hl
  refine lv_aload_n E.1.1 E.1.2.1 dX8_size_0 rfl (lv_at hl 0 rfl) ?_
  refine row_get (v := .int (iv 10)) E B iX8 rfl 5 (by decide) mw_154 27 rfl rfl dX8_size_1 ?_
  have r_1 : (iv 10).toInt = 0 := h10
  exact ret_I (u := ()) E hr hlk rfl B (by omega) dX8_size_4
set_option maxHeartbeats 4000000 in
set_option maxRecDepth 100000 in
theorem x_8_at (l : Launch) (D : va_G) (ct : Nat → ClassId) (tN : Nat) (ad : Nat → Nat) (iv : Nat → Int32) (ia : Nat → Nat → Int32) (la : Nat → Nat → Int64) (pt : Nat → Option Nat) (ra : Nat → Nat → Option Nat) (R : va_W) (p0 : Int32) (h10 : (iv 10).toInt = 0) : MQ9 l D (TY ct) tN yX8_at cX8_at 2 (some (.object "VerseCommittee$Rendering")) ({ frames := 0, cells := 0, slots := 0, locals := 0 } : Room) [.ref (ad 27), .int p0] (XW ct ad iv ia la pt ra R) (fun (v : Option Nat) (u : Unit) => v = none) (fun _ => XW ct ad iv ia la pt ra R) 0 0 := by
  intro sz
  refine Met.ofE (Qc := fun A => va_Qq (fun (v : Option Nat) (u : Unit) => v = none) (BW D A (fun _ => XW ct ad iv ia la pt ra R)) A) (by decide) (Nat.le_of_ble_eq_true rfl) ?_
  intro p e s m args below meth c A ls hsz E hr hlk hnm B hl
  have hl : lv_has ls 2 [(0, .ref (ad 27)), (1, .int p0)] := hl
  refine lv_iload_n E.1.1 E.1.2.1 dX8_at_0 rfl (lv_at hl 1 rfl) ?_
  refine b_lt (tgt := 21) E rfl dX8_at_1 (by decide) (fun c_1 => ?_) (fun c_1 => ?_)
  · skip
    refine lv_null E.1.1 E.1.2.1 dX8_at_21 ?_
    exact ret_Q (u := ()) (v := none) E hr hlk (Or.inl ⟨_, rfl⟩) B rfl dX8_at_22
  · skip
    refine lv_iload_n E.1.1 E.1.2.1 dX8_at_4 rfl (lv_at hl 1 rfl) ?_
    refine lv_aload_n E.1.1 E.1.2.1 dX8_at_5 rfl (lv_at hl 0 rfl) ?_
    refine row_get (v := .int (iv 10)) E B iX8 rfl 5 (by decide) mw_154 27 rfl rfl dX8_at_6 ?_
    refine c_ge (tgt := 21) E rfl h10 dX8_at_9 (by decide) (fun c_2 => ?_) (fun c_2 => ?_)
    · skip
      refine lv_null E.1.1 E.1.2.1 dX8_at_21 ?_
      exact ret_Q (u := ()) (v := none) E hr hlk (Or.inl ⟨_, rfl⟩) B rfl dX8_at_22
    · exfalso; omega
set_option maxHeartbeats 4000000 in
set_option maxRecDepth 100000 in
theorem x_8_fixedNumber (l : Launch) (D : va_G) (ct : Nat → ClassId) (tN : Nat) (ad : Nat → Nat) (iv : Nat → Int32) (ia : Nat → Nat → Int32) (la : Nat → Nat → Int64) (pt : Nat → Option Nat) (ra : Nat → Nat → Option Nat) (R : va_W) (p0 : Int32) (g29 : ∀ j, (ia 29 j).toInt = -1) : MI l D (TY ct) tN yX8_fixedNumber cX8_fixedNumber 2 (some .int) ({ frames := 0, cells := 0, slots := 0, locals := 0 } : Room) [.ref (ad 27), .int p0] (XW ct ad iv ia la pt ra R) (fun (v : Int32) (u : Unit) => v.toInt = -1) (fun _ => XW ct ad iv ia la pt ra R) 0 0 := by
  intro sz
  refine Met.ofE (Qc := fun A => va_Qi (fun (v : Int32) (u : Unit) => v.toInt = -1) (BW D A (fun _ => XW ct ad iv ia la pt ra R)) A) (by decide) (Nat.le_of_ble_eq_true rfl) ?_
  intro p e s m args below meth c A ls hsz E hr hlk hnm B hl
  have hl : lv_has ls 2 [(0, .ref (ad 27)), (1, .int p0)] := hl
  refine lv_iload_n E.1.1 E.1.2.1 dX8_fixedNumber_0 rfl (lv_at hl 1 rfl) ?_
  refine b_lt (tgt := 19) E rfl dX8_fixedNumber_1 (by decide) (fun c_1 => ?_) (fun c_1 => ?_)
  · skip
    refine lv_iconst (v := -1) E.1.1 E.1.2.1 dX8_fixedNumber_19 (by decide) ?_
    have r_2 : (-1 : Int32).toInt = -1 := tI_m1
    exact ret_I (u := ()) E hr hlk rfl B (by omega) dX8_fixedNumber_20
  · skip
    refine lv_iload_n E.1.1 E.1.2.1 dX8_fixedNumber_4 rfl (lv_at hl 1 rfl) ?_
    refine lv_bipush (v := 60) E.1.1 E.1.2.1 dX8_fixedNumber_5 (by decide) ?_
    refine c_ge (tgt := 19) E rfl tI_60 dX8_fixedNumber_7 (by decide) (fun c_3 => ?_) (fun c_3 => ?_)
    · skip
      refine lv_iconst (v := -1) E.1.1 E.1.2.1 dX8_fixedNumber_19 (by decide) ?_
      have r_4 : (-1 : Int32).toInt = -1 := tI_m1
      exact ret_I (u := ()) E hr hlk rfl B (by omega) dX8_fixedNumber_20
    · skip
      refine lv_aload_n E.1.1 E.1.2.1 dX8_fixedNumber_10 rfl (lv_at hl 0 rfl) ?_
      refine row_get (v := .ref (ad 29)) E B iX8 rfl 1 (by decide) mw_150 27 rfl rfl dX8_fixedNumber_11 ?_
      refine lv_iload_n E.1.1 E.1.2.1 dX8_fixedNumber_14 rfl (lv_at hl 1 rfl) ?_
      refine row_iald E B 29 rfl (vp_of rfl (by omega) (by omega)) dX8_fixedNumber_15 ?_
      refine lv_goto (tgt := 20) E.1.1 E.1.2.1 dX8_fixedNumber_16 (by decide) ?_
      have r_5 : (ia 29 p0.toNatClampNeg).toInt = -1 := (g29 _)
      exact ret_I (u := ()) E hr hlk rfl B (by omega) dX8_fixedNumber_20
set_option maxHeartbeats 4000000 in
set_option maxRecDepth 100000 in
theorem x_8_fixedAt (l : Launch) (D : va_G) (ct : Nat → ClassId) (tN : Nat) (ad : Nat → Nat) (iv : Nat → Int32) (ia : Nat → Nat → Int32) (la : Nat → Nat → Int64) (pt : Nat → Option Nat) (ra : Nat → Nat → Option Nat) (R : va_W) (p0 : Int32) (h10 : (iv 10).toInt = 0) (g29 : ∀ j, (ia 29 j).toInt = -1) : MQ9 l D (TY ct) tN yX8_fixedAt cX8_fixedAt 2 (some (.object "VerseCommittee$Rendering")) ({ frames := 1, cells := 0, slots := 0, locals := 21 } : Room) [.ref (ad 27), .int p0] (XW ct ad iv ia la pt ra R) (fun (v : Option Nat) (u : Unit) => v = none) (fun _ => XW ct ad iv ia la pt ra R) 0 0 := by
  intro sz
  refine Met.ofE (Qc := fun A => va_Qq (fun (v : Option Nat) (u : Unit) => v = none) (BW D A (fun _ => XW ct ad iv ia la pt ra R)) A) (by decide) (Nat.le_of_ble_eq_true rfl) ?_
  intro p e s m args below meth c A ls hsz E hr hlk hnm B hl
  have hl : lv_has ls 2 [(0, .ref (ad 27)), (1, .int p0)] := hl
  refine lv_aload_n E.1.1 E.1.2.1 dX8_fixedAt_0 rfl (lv_at hl 0 rfl) ?_
  refine lv_aload_n E.1.1 E.1.2.1 dX8_fixedAt_1 rfl (lv_at hl 0 rfl) ?_
  refine lv_iload_n E.1.1 E.1.2.1 dX8_fixedAt_2 rfl (lv_at hl 1 rfl) ?_
  refine call_VI (kn := 1) E B (x_8_fixedNumber l D ct tN ad iv ia la pt ra R  p0 g29) (good_V mw_992 mw_993 mw_994 mw_6 mw_995) 27 rfl rfl ⟨rfl, by decide +kernel⟩ rfl rfl rfl ⟨by decide, by decide⟩ rfl hl (Nat.le_of_ble_eq_true rfl) dX8_fixedAt_3 ⟨Nat.le_of_ble_eq_true rfl, Nat.le_of_ble_eq_true rfl⟩ (fun v_1 u_2 H locs w_3 B => ?_)
  have w_3 : v_1.toInt = -1 := w_3
  have B : Hp D A s.heap (XW ct ad iv ia la pt ra R) H locs := B
  refine at_n (n := 6) (k1 := 0) (k2 := 0) rfl rfl rfl ?_
  refine call_VQ (kn := 1) E B (x_8_at l D ct tN ad iv ia la pt ra R  v_1 h10) (good_V mw_996 mw_937 mw_938 mw_6 mw_939) 27 rfl rfl ⟨rfl, by decide +kernel⟩ rfl rfl rfl ⟨by decide, by decide⟩ rfl hl (Nat.le_of_ble_eq_true rfl) dX8_fixedAt_6 ⟨Nat.le_of_ble_eq_true rfl, Nat.le_of_ble_eq_true rfl⟩ (fun v_4 u_5 H locs w_6 B => ?_)
  have w_6 : v_4 = none := w_6
  subst w_6
  have B : Hp D A s.heap (XW ct ad iv ia la pt ra R) H locs := B
  refine at_n (n := 9) (k1 := 0) (k2 := 0) rfl rfl rfl ?_
  exact ret_Q (u := ()) (v := none) E hr hlk (Or.inl ⟨_, rfl⟩) B rfl dX8_fixedAt_9
set_option maxHeartbeats 4000000 in
set_option maxRecDepth 100000 in
theorem x_8_fixedThen (l : Launch) (D : va_G) (ct : Nat → ClassId) (tN : Nat) (ad : Nat → Nat) (iv : Nat → Int32) (ia : Nat → Nat → Int32) (la : Nat → Nat → Int64) (pt : Nat → Option Nat) (ra : Nat → Nat → Option Nat) (R : va_W) (p0 : Int32) (p1 : Int32) (h11 : (iv 11).toInt = 0) : MI l D (TY ct) tN yX8_fixedThen cX8_fixedThen 4 (some .int) ({ frames := 0, cells := 0, slots := 0, locals := 0 } : Room) [.ref (ad 27), .int p0, .int p1] (XW ct ad iv ia la pt ra R) (fun (v : Int32) (u : Unit) => v.toInt = -1) (fun _ => XW ct ad iv ia la pt ra R) 0 0 := by
  intro sz
  refine Met.ofE (Qc := fun A => va_Qi (fun (v : Int32) (u : Unit) => v.toInt = -1) (BW D A (fun _ => XW ct ad iv ia la pt ra R)) A) (by decide) (Nat.le_of_ble_eq_true rfl) ?_
  intro p e s m args below meth c A ls hsz E hr hlk hnm B hl
  have hl : lv_has ls 4 [(0, .ref (ad 27)), (1, .int p0), (2, .int p1)] := hl
  refine lv_aload_n E.1.1 E.1.2.1 dX8_fixedThen_0 rfl (lv_at hl 0 rfl) ?_
  refine row_get (v := .int (iv 11)) E B iX8 rfl 6 (by decide) mw_155 27 rfl rfl dX8_fixedThen_1 ?_
  refine lv_iconst (v := 1) E.1.1 E.1.2.1 dX8_fixedThen_4 (by decide) ?_
  refine i_sub E h11 tI_1 (by omega) (by omega) dX8_fixedThen_5 (fun z_1 ez_1 => ?_)
  have ez_1 : z_1.toInt = -1 := by omega
  refine lv_istore_n (lv' := [(3, .int z_1), (0, .ref (ad 27)), (1, .int p0), (2, .int p1)]) E.1.1 E.1.2.1 dX8_fixedThen_6 rfl hl (by decide) rfl (fun ls hl => ?_)
  refine lv_iload_n E.1.1 E.1.2.1 dX8_fixedThen_7 rfl (lv_at hl 0 rfl) ?_
  refine at_pc (n := 8) rfl ?_
  refine b_lt (tgt := 44) E ez_1 dX8_fixedThen_8 (by decide) (fun c_2 => ?_) (fun c_2 => ?_)
  · skip
    refine lv_iconst (v := -1) E.1.1 E.1.2.1 dX8_fixedThen_44 (by decide) ?_
    have r_3 : (-1 : Int32).toInt = -1 := tI_m1
    exact ret_I (u := ()) E hr hlk rfl B (by omega) dX8_fixedThen_45
  · exfalso; omega
set_option maxHeartbeats 4000000 in
set_option maxRecDepth 100000 in
theorem x_8_inState (l : Launch) (D : va_G) (ct : Nat → ClassId) (tN : Nat) (ad : Nat → Nat) (iv : Nat → Int32) (ia : Nat → Nat → Int32) (la : Nat → Nat → Int64) (pt : Nat → Option Nat) (ra : Nat → Nat → Option Nat) (R : va_W) (p0 : Int32) (h10 : (iv 10).toInt = 0) : MI l D (TY ct) tN yX8_inState cX8_inState 5 (some .int) ({ frames := 0, cells := 0, slots := 0, locals := 0 } : Room) [.ref (ad 27), .int p0] (XW ct ad iv ia la pt ra R) (fun (v : Int32) (u : Unit) => v.toInt = 0) (fun _ => XW ct ad iv ia la pt ra R) 0 0 := by
  intro sz
  refine Met.ofE (Qc := fun A => va_Qi (fun (v : Int32) (u : Unit) => v.toInt = 0) (BW D A (fun _ => XW ct ad iv ia la pt ra R)) A) (by decide) (Nat.le_of_ble_eq_true rfl) ?_
  intro p e s m args below meth c A ls hsz E hr hlk hnm B hl
  have hl : lv_has ls 5 [(0, .ref (ad 27)), (1, .int p0)] := hl
  refine lv_iconst (v := 0) E.1.1 E.1.2.1 dX8_inState_0 (by decide) ?_
  refine lv_istore_n (lv' := [(2, .int (0 : Int32)), (0, .ref (ad 27)), (1, .int p0)]) E.1.1 E.1.2.1 dX8_inState_1 rfl hl (by decide) rfl (fun ls hl => ?_)
  refine lv_iconst (v := 0) E.1.1 E.1.2.1 dX8_inState_2 (by decide) ?_
  refine lv_istore_n (lv' := [(3, .int (0 : Int32)), (2, .int (0 : Int32)), (0, .ref (ad 27)), (1, .int p0)]) E.1.1 E.1.2.1 dX8_inState_3 rfl hl (by decide) rfl (fun ls hl => ?_)
  refine lv_iload_n E.1.1 E.1.2.1 dX8_inState_4 rfl (lv_at hl 0 rfl) ?_
  refine lv_aload_n E.1.1 E.1.2.1 dX8_inState_5 rfl (lv_at hl 2 rfl) ?_
  refine at_pc (n := 6) rfl ?_
  refine row_get (v := .int (iv 10)) E B iX8 rfl 5 (by decide) mw_154 27 rfl rfl dX8_inState_6 ?_
  refine c_ge (tgt := 43) E tI_0 h10 dX8_inState_9 (by decide) (fun c_1 => ?_) (fun c_1 => ?_)
  · skip
    refine lv_iload_n E.1.1 E.1.2.1 dX8_inState_43 rfl (lv_at hl 1 rfl) ?_
    have r_2 : (0 : Int32).toInt = 0 := tI_0
    exact ret_I (u := ()) E hr hlk rfl B (by omega) dX8_inState_44
  · exfalso; omega
set_option maxHeartbeats 4000000 in
set_option maxRecDepth 100000 in
theorem x_8_fixedVerses (l : Launch) (D : va_G) (ct : Nat → ClassId) (tN : Nat) (ad : Nat → Nat) (iv : Nat → Int32) (ia : Nat → Nat → Int32) (la : Nat → Nat → Int64) (pt : Nat → Option Nat) (ra : Nat → Nat → Option Nat) (R : va_W)  (g29 : ∀ j, (ia 29 j).toInt = -1) : MI l D (TY ct) tN yX8_fixedVerses cX8_fixedVerses 3 (some .int) ({ frames := 0, cells := 0, slots := 0, locals := 0 } : Room) [.ref (ad 27)] (XW ct ad iv ia la pt ra R) (fun (v : Int32) (u : Unit) => v.toInt = 0) (fun _ => XW ct ad iv ia la pt ra R) 0 0 := by
  intro sz
  refine Met.ofE (Qc := fun A => va_Qi (fun (v : Int32) (u : Unit) => v.toInt = 0) (BW D A (fun _ => XW ct ad iv ia la pt ra R)) A) (by decide) (Nat.le_of_ble_eq_true rfl) ?_
  intro p e s m args below meth c A ls hsz E hr hlk hnm B hl
  have hl : lv_has ls 3 [(0, .ref (ad 27))] := hl
  refine lv_iconst (v := 0) E.1.1 E.1.2.1 dX8_fixedVerses_0 (by decide) ?_
  refine lv_istore_n (lv' := [(1, .int (0 : Int32)), (0, .ref (ad 27))]) E.1.1 E.1.2.1 dX8_fixedVerses_1 rfl hl (by decide) rfl (fun ls hl => ?_)
  refine lv_iconst (v := 0) E.1.1 E.1.2.1 dX8_fixedVerses_2 (by decide) ?_
  refine lv_istore_n (lv' := [(2, .int (0 : Int32)), (1, .int (0 : Int32)), (0, .ref (ad 27))]) E.1.1 E.1.2.1 dX8_fixedVerses_3 rfl hl (by decide) rfl (fun ls hl => ?_)
  have lp_1 : ∀ (n : Nat) (i_1 : Int32) (H : Heap) (locs : List Loc) (ls : Array Slot), 0 ≤ i_1.toInt → i_1.toInt ≤ 60 → 61 ≤ i_1.toInt + 1 * (n : Int) → (∀ j, (ia 29 j).toInt = -1) → Hp D A s.heap (XW ct ad iv ia la pt ra R) H locs → lv_has ls 3 [(2, .int i_1), (1, .int (0 : Int32)), (0, .ref (ad 27))] → W p l e ({ frames := 0, cells := 0, slots := 0, locals := 0 } : Room) s m args below meth c H locs 0 0 (MQ below (va_Qi (fun (v : Int32) (u : Unit) => v.toInt = 0) (BW D A (fun _ => XW ct ad iv ia la pt ra R)) A) args s 0 0 A) (F0 m 4 ls []) := by
    intro n
    induction n with
    | zero => intro i_1 H locs ls h1 h2 h3; exfalso; omega
    | succ n ih =>
      intro i_1 H locs ls h1 h2 h3 a_2 B hl
      refine lv_iload_n E.1.1 E.1.2.1 dX8_fixedVerses_4 rfl (lv_at hl 0 rfl) ?_
      refine lv_bipush (v := 60) E.1.1 E.1.2.1 dX8_fixedVerses_5 (by decide) ?_
      refine c_ge (tgt := 29) E rfl tI_60 dX8_fixedVerses_7 (by decide) (fun c_3 => ?_) (fun c_3 => ?_)
      · skip
        refine lv_iload_n E.1.1 E.1.2.1 dX8_fixedVerses_29 rfl (lv_at hl 1 rfl) ?_
        have r_4 : (0 : Int32).toInt = 0 := tI_0
        exact ret_I (u := ()) E hr hlk rfl B (by omega) dX8_fixedVerses_30
      · skip
        refine lv_aload_n E.1.1 E.1.2.1 dX8_fixedVerses_10 rfl (lv_at hl 2 rfl) ?_
        refine row_get (v := .ref (ad 29)) E B iX8 rfl 1 (by decide) mw_150 27 rfl rfl dX8_fixedVerses_11 ?_
        refine lv_iload_n E.1.1 E.1.2.1 dX8_fixedVerses_14 rfl (lv_at hl 0 rfl) ?_
        refine row_iald E B 29 rfl (vp_of rfl (by omega) (by omega)) dX8_fixedVerses_15 ?_
        refine lv_iconst (v := -1) E.1.1 E.1.2.1 dX8_fixedVerses_16 (by decide) ?_
        refine c_eq (tgt := 23) E (a_2 _) tI_m1 dX8_fixedVerses_17 (by decide) (fun c_5 => ?_) (fun c_5 => ?_)
        · skip
          refine i_inc (k := 0) E rfl (by decide) (by omega) (by omega) dX8_fixedVerses_23 hl rfl (by decide) (fun z_6 ls ez_6 hl => ?_)
          have hl : lv_has ls 3 [(2, .int z_6), (1, .int (0 : Int32)), (0, .ref (ad 27))] := hl
          have ez_6 : z_6.toInt = i_1.toInt + 1 := ez_6
          refine lv_goto (tgt := 4) E.1.1 E.1.2.1 dX8_fixedVerses_26 (by decide) ?_
          exact ih _ _ _ _ (by omega) (by omega) (by omega) a_2 B (lv_sub hl [0, 1, 2] rfl)
        · exfalso; omega
  exact lp_1 61 _ _ _ _ (by have := tI_0; omega) (by have := tI_0; omega) (by have := tI_0; omega) g29 B hl
set_option maxHeartbeats 4000000 in
set_option maxRecDepth 100000 in
theorem x_1_seekUnlike (l : Launch) (D : va_G) (ct : Nat → ClassId) (tN : Nat) (ad : Nat → Nat) (iv : Nat → Int32) (ia : Nat → Nat → Int32) (la : Nat → Nat → Int64) (pt : Nat → Option Nat) (ra : Nat → Nat → Option Nat) (R : va_W) (p0 : Int32) (p1 : Int32) (h3 : (iv 3).toInt = 0) : MI l D (TY ct) tN yX1_seekUnlike cX1_seekUnlike 5 (some .boolean) ({ frames := 1, cells := 0, slots := 0, locals := 20 } : Room) [.ref (ad 35), .int p0, .int p1] (XW ct ad iv ia la pt ra R) (fun (v : Int32) (u : Nat → Int32) => v.toInt = 0 ∧ (u 29).toInt = 0) (fun u => XW ct ad u ia la pt ra R) 0 0 := by
  intro sz
  refine Met.ofE (Qc := fun A => va_Qi (fun (v : Int32) (u : Nat → Int32) => v.toInt = 0 ∧ (u 29).toInt = 0) (BW D A (fun u => XW ct ad u ia la pt ra R)) A) (by decide) (Nat.le_of_ble_eq_true rfl) ?_
  intro p e s m args below meth c A ls hsz E hr hlk hnm B hl
  have hl : lv_has ls 5 [(0, .ref (ad 35)), (1, .int p0), (2, .int p1)] := hl
  refine lv_aload_n E.1.1 E.1.2.1 dX1_seekUnlike_0 rfl (lv_at hl 0 rfl) ?_
  refine lv_iconst (v := 0) E.1.1 E.1.2.1 dX1_seekUnlike_1 (by decide) ?_
  refine row_put E B iX1 rfl tyX1 tyX1_ok nmX1 12 (by decide) mw_269 rfl 35 rfl rfl rfl (Nat.le_of_ble_eq_true rfl) dX1_seekUnlike_2 (fun H locs B => ?_)
  have B := Hp.eq (sx_iv_29 ct ad iv ia la pt ra R ((0 : Int32))) B
  have h_2 : ((va_up iv 29 (0 : Int32)) 3).toInt = 0 := h3
  have h_3 : ((va_up iv 29 (0 : Int32)) 29).toInt = 0 := tI_0
  generalize va_up iv 29 (0 : Int32) = iv_1 at B h_2 h_3
  refine lv_aload_n E.1.1 E.1.2.1 dX1_seekUnlike_5 rfl (lv_at hl 0 rfl) ?_
  refine lv_iconst (v := 0) E.1.1 E.1.2.1 dX1_seekUnlike_6 (by decide) ?_
  refine row_put E B iX1 rfl tyX1 tyX1_ok nmX1 11 (by decide) mw_268 rfl 35 rfl rfl rfl (Nat.le_of_ble_eq_true rfl) dX1_seekUnlike_7 (fun H locs B => ?_)
  have B := Hp.eq (sx_iv_28 ct ad iv_1 ia la pt ra R ((0 : Int32))) B
  have h_5 : ((va_up iv_1 28 (0 : Int32)) 3).toInt = 0 := h_2
  have h_6 : ((va_up iv_1 28 (0 : Int32)) 29).toInt = 0 := h_3
  have h_7 : ((va_up iv_1 28 (0 : Int32)) 28).toInt = 0 := tI_0
  generalize va_up iv_1 28 (0 : Int32) = iv_4 at B h_5 h_6 h_7
  refine at_pc (n := 10) rfl ?_
  refine lv_iconst (v := 0) E.1.1 E.1.2.1 dX1_seekUnlike_10 (by decide) ?_
  refine lv_istore_n (lv' := [(3, .int (0 : Int32)), (0, .ref (ad 35)), (1, .int p0), (2, .int p1)]) E.1.1 E.1.2.1 dX1_seekUnlike_11 rfl hl (by decide) rfl (fun ls hl => ?_)
  refine lv_iload_n E.1.1 E.1.2.1 dX1_seekUnlike_12 rfl (lv_at hl 0 rfl) ?_
  refine lv_aload_n E.1.1 E.1.2.1 dX1_seekUnlike_13 rfl (lv_at hl 1 rfl) ?_
  refine row_get (v := .ref (ad 6)) E B iX1 rfl 1 (by decide) mw_258 35 rfl rfl dX1_seekUnlike_14 ?_
  refine call_VI (kn := 0) E B (x_9_size l D ct tN ad iv_4 ia la pt ra R   h_5) (good_V mw_1149 mw_1150 mw_1151 mw_3 mw_1152) 6 rfl rfl ⟨rfl, by decide +kernel⟩ rfl rfl rfl ⟨by decide, by decide⟩ rfl hl (Nat.le_of_ble_eq_true rfl) dX1_seekUnlike_17 ⟨Nat.le_of_ble_eq_true rfl, Nat.le_of_ble_eq_true rfl⟩ (fun v_8 u_9 H locs w_10 B => ?_)
  have w_10 : v_8.toInt = 0 := w_10
  have B : Hp D A s.heap (XW ct ad iv_4 ia la pt ra R) H locs := B
  refine at_n (n := 20) (k1 := 0) (k2 := 0) rfl rfl rfl ?_
  refine c_ge (tgt := 63) E tI_0 w_10 dX1_seekUnlike_20 (by decide) (fun c_11 => ?_) (fun c_11 => ?_)
  · skip
    refine lv_iconst (v := 0) E.1.1 E.1.2.1 dX1_seekUnlike_63 (by decide) ?_
    refine lv_istore_n (lv' := [(3, .int (0 : Int32)), (0, .ref (ad 35)), (1, .int p0), (2, .int p1)]) E.1.1 E.1.2.1 dX1_seekUnlike_64 rfl hl (by decide) rfl (fun ls hl => ?_)
    refine lv_iload_n E.1.1 E.1.2.1 dX1_seekUnlike_65 rfl (lv_at hl 0 rfl) ?_
    refine lv_aload_n E.1.1 E.1.2.1 dX1_seekUnlike_66 rfl (lv_at hl 1 rfl) ?_
    refine row_get (v := .int (iv_4 28)) E B iX1 rfl 11 (by decide) mw_268 35 rfl rfl dX1_seekUnlike_67 ?_
    refine c_ge (tgt := 198) E tI_0 h_7 dX1_seekUnlike_70 (by decide) (fun c_12 => ?_) (fun c_12 => ?_)
    · skip
      refine lv_iconst (v := 0) E.1.1 E.1.2.1 dX1_seekUnlike_198 (by decide) ?_
      have r_13 : (0 : Int32).toInt = 0 := tI_0
      exact ret_I (u := iv_4) E hr hlk (narrow_z (by omega)) B ⟨(by omega), (by have := h_6; omega)⟩ dX1_seekUnlike_199
    · exfalso; omega
  · exfalso; omega
set_option maxHeartbeats 4000000 in
set_option maxRecDepth 100000 in
theorem x_1_seen (l : Launch) (D : va_G) (ct : Nat → ClassId) (tN : Nat) (ad : Nat → Nat) (iv : Nat → Int32) (ia : Nat → Nat → Int32) (la : Nat → Nat → Int64) (pt : Nat → Option Nat) (ra : Nat → Nat → Option Nat) (R : va_W)  (h29 : (iv 29).toInt = 0) : MI l D (TY ct) tN yX1_seen cX1_seen 1 (some .int) ({ frames := 0, cells := 0, slots := 0, locals := 0 } : Room) [.ref (ad 35)] (XW ct ad iv ia la pt ra R) (fun (v : Int32) (u : Unit) => v.toInt = 0) (fun _ => XW ct ad iv ia la pt ra R) 0 0 := by
  intro sz
  refine Met.ofE (Qc := fun A => va_Qi (fun (v : Int32) (u : Unit) => v.toInt = 0) (BW D A (fun _ => XW ct ad iv ia la pt ra R)) A) (by decide) (Nat.le_of_ble_eq_true rfl) ?_
  intro p e s m args below meth c A ls hsz E hr hlk hnm B hl
  have hl : lv_has ls 1 [(0, .ref (ad 35))] := hl
  refine lv_aload_n E.1.1 E.1.2.1 dX1_seen_0 rfl (lv_at hl 0 rfl) ?_
  refine row_get (v := .int (iv 29)) E B iX1 rfl 12 (by decide) mw_269 35 rfl rfl dX1_seen_1 ?_
  have r_1 : (iv 29).toInt = 0 := h29
  exact ret_I (u := ()) E hr hlk rfl B (by omega) dX1_seen_4
set_option maxHeartbeats 4000000 in
set_option maxRecDepth 100000 in
theorem x_0_size (l : Launch) (D : va_G) (ct : Nat → ClassId) (tN : Nat) (ad : Nat → Nat) (iv : Nat → Int32) (ia : Nat → Nat → Int32) (la : Nat → Nat → Int64) (pt : Nat → Option Nat) (ra : Nat → Nat → Option Nat) (R : va_W)  (h30 : (iv 30).toInt = 0) : MI l D (TY ct) tN yX0_size cX0_size 1 (some .int) ({ frames := 0, cells := 0, slots := 0, locals := 0 } : Room) [.ref (ad 42)] (XW ct ad iv ia la pt ra R) (fun (v : Int32) (u : Unit) => v.toInt = 0) (fun _ => XW ct ad iv ia la pt ra R) 0 0 := by
  intro sz
  refine Met.ofE (Qc := fun A => va_Qi (fun (v : Int32) (u : Unit) => v.toInt = 0) (BW D A (fun _ => XW ct ad iv ia la pt ra R)) A) (by decide) (Nat.le_of_ble_eq_true rfl) ?_
  intro p e s m args below meth c A ls hsz E hr hlk hnm B hl
  have hl : lv_has ls 1 [(0, .ref (ad 42))] := hl
  refine lv_aload_n E.1.1 E.1.2.1 dX0_size_0 rfl (lv_at hl 0 rfl) ?_
  refine row_get (v := .int (iv 30)) E B iX0 rfl 11 (by decide) mw_315 42 rfl rfl dX0_size_1 ?_
  have r_1 : (iv 30).toInt = 0 := h30
  exact ret_I (u := ()) E hr hlk rfl B (by omega) dX0_size_4
set_option maxHeartbeats 4000000 in
set_option maxRecDepth 100000 in
theorem x_0_arePart (l : Launch) (D : va_G) (ct : Nat → ClassId) (tN : Nat) (ad : Nat → Nat) (iv : Nat → Int32) (ia : Nat → Nat → Int32) (la : Nat → Nat → Int64) (pt : Nat → Option Nat) (ra : Nat → Nat → Option Nat) (R : va_W) (p0 : Int32) (p1 : Int32) (l46 : ∀ j, la 46 j = 0) (q0 : 0 ≤ p0.toInt) (q1 : p0.toInt ≤ 39) : MI l D (TY ct) tN yX0_arePart cX0_arePart 3 (some .boolean) ({ frames := 0, cells := 0, slots := 0, locals := 0 } : Room) [.ref (ad 42), .int p0, .int p1] (XW ct ad iv ia la pt ra R) (fun (v : Int32) (u : Unit) => v.toInt = 0) (fun _ => XW ct ad iv ia la pt ra R) 0 0 := by
  intro sz
  refine Met.ofE (Qc := fun A => va_Qi (fun (v : Int32) (u : Unit) => v.toInt = 0) (BW D A (fun _ => XW ct ad iv ia la pt ra R)) A) (by decide) (Nat.le_of_ble_eq_true rfl) ?_
  intro p e s m args below meth c A ls hsz E hr hlk hnm B hl
  have hl : lv_has ls 3 [(0, .ref (ad 42)), (1, .int p0), (2, .int p1)] := hl
  refine lv_aload_n E.1.1 E.1.2.1 dX0_arePart_0 rfl (lv_at hl 0 rfl) ?_
  refine row_get (v := .ref (ad 46)) E B iX0 rfl 7 (by decide) mw_311 42 rfl rfl dX0_arePart_1 ?_
  refine lv_iload_n E.1.1 E.1.2.1 dX0_arePart_4 rfl (lv_at hl 1 rfl) ?_
  refine row_lald E B 46 rfl (vp_of rfl (by omega) (by omega)) dX0_arePart_5 ?_
  refine lv_lconst (v := 1) E.1.1 E.1.2.1 dX0_arePart_6 (by decide) ?_
  refine lv_iload_n E.1.1 E.1.2.1 dX0_arePart_7 rfl (lv_at hl 2 rfl) ?_
  refine at_pc (n := 8) rfl ?_
  refine lv_lshl E.1.1 E.1.2.1 dX0_arePart_8 rfl (any_l (fun y_1 => ?_))
  refine l_and0 E (l46 _) dX0_arePart_9 ?_
  refine lv_lconst (v := 0) E.1.1 E.1.2.1 dX0_arePart_10 (by decide) ?_
  refine l_cmp0 E dX0_arePart_11 ?_
  refine b_eq (tgt := 19) E tI_0 dX0_arePart_12 (by decide) (fun c_3 => ?_) (fun c_3 => ?_)
  · skip
    refine lv_iconst (v := 0) E.1.1 E.1.2.1 dX0_arePart_19 (by decide) ?_
    have r_4 : (0 : Int32).toInt = 0 := tI_0
    exact ret_I (u := ()) E hr hlk (narrow_z (by omega)) B (by omega) dX0_arePart_20
  · exfalso; omega
set_option maxHeartbeats 4000000 in
set_option maxRecDepth 100000 in
theorem x_0_part (l : Launch) (D : va_G) (ct : Nat → ClassId) (tN : Nat) (ad : Nat → Nat) (iv : Nat → Int32) (ia : Nat → Nat → Int32) (la : Nat → Nat → Int64) (pt : Nat → Option Nat) (ra : Nat → Nat → Option Nat) (R : va_W) (p0 : Int32) (p1 : Int32) (l46 : ∀ j, la 46 j = 0) (q0 : 0 ≤ p0.toInt) (q1 : p0.toInt ≤ 39) (q2 : 0 ≤ p1.toInt) (q3 : p1.toInt ≤ 39) : MI l D (TY ct) tN yX0_part cX0_part 3 (some .boolean) ({ frames := 1, cells := 0, slots := 0, locals := 22 } : Room) [.ref (ad 42), .int p0, .int p1] (XW ct ad iv ia la pt ra R) (fun (v : Int32) (u : va_W) => v.toInt = 1) (fun u => u) 0 0 := by
  intro sz
  refine Met.ofE (Qc := fun A => va_Qi (fun (v : Int32) (u : va_W) => v.toInt = 1) (BW D A (fun u => u)) A) (by decide) (Nat.le_of_ble_eq_true rfl) ?_
  intro p e s m args below meth c A ls hsz E hr hlk hnm B hl
  have hl : lv_has ls 3 [(0, .ref (ad 42)), (1, .int p0), (2, .int p1)] := hl
  refine lv_aload_n E.1.1 E.1.2.1 dX0_part_0 rfl (lv_at hl 0 rfl) ?_
  refine lv_iload_n E.1.1 E.1.2.1 dX0_part_1 rfl (lv_at hl 1 rfl) ?_
  refine lv_iload_n E.1.1 E.1.2.1 dX0_part_2 rfl (lv_at hl 2 rfl) ?_
  refine call_VI (kn := 2) E B (x_0_arePart l D ct tN ad iv ia la pt ra R  p0 p1 l46 (by omega) (by omega)) (good_V mw_1213 mw_1215 ms_53 mw_10 mw_1216) 42 rfl rfl ⟨rfl, by decide +kernel⟩ rfl rfl rfl ⟨by decide, by decide⟩ rfl hl (Nat.le_of_ble_eq_true rfl) dX0_part_3 ⟨Nat.le_of_ble_eq_true rfl, Nat.le_of_ble_eq_true rfl⟩ (fun v_1 u_2 H locs w_3 B => ?_)
  have w_3 : v_1.toInt = 0 := w_3
  have B : Hp D A s.heap (XW ct ad iv ia la pt ra R) H locs := B
  refine at_n (n := 6) (k1 := 0) (k2 := 0) rfl rfl rfl ?_
  refine b_eq (tgt := 11) E w_3 dX0_part_6 (by decide) (fun c_4 => ?_) (fun c_4 => ?_)
  · skip
    refine lv_aload_n E.1.1 E.1.2.1 dX0_part_11 rfl (lv_at hl 0 rfl) ?_
    refine row_get (v := .ref (ad 46)) E B iX0 rfl 7 (by decide) mw_311 42 rfl rfl dX0_part_12 ?_
    refine lv_iload_n E.1.1 E.1.2.1 dX0_part_15 rfl (lv_at hl 1 rfl) ?_
    refine lv_dup2_11 E.1.1 E.1.2.1 dX0_part_16 rfl rfl ?_
    refine row_lald E B 46 rfl (vp_of rfl (by omega) (by omega)) dX0_part_17 ?_
    refine lv_lconst (v := 1) E.1.1 E.1.2.1 dX0_part_18 (by decide) ?_
    refine at_pc (n := 19) rfl ?_
    refine lv_iload_n E.1.1 E.1.2.1 dX0_part_19 rfl (lv_at hl 2 rfl) ?_
    refine lv_lshl E.1.1 E.1.2.1 dX0_part_20 rfl (any_l (fun y_5 => ?_))
    refine lv_lor E.1.1 E.1.2.1 dX0_part_21 (any_l (fun y_6 => ?_))
    refine row_last E B 46 rfl (vp_of rfl (by omega) (by omega)) dX0_part_22 (fun H locs B => ?_)
    have B := Hp.eq (sx_la_46 ct ad iv ia la pt ra R (vp_updL (la 46) p0.toNatClampNeg y_6)) B
    generalize va_up la 46 (vp_updL (la 46) p0.toNatClampNeg y_6) = la_7 at B
    refine lv_aload_n E.1.1 E.1.2.1 dX0_part_23 rfl (lv_at hl 0 rfl) ?_
    refine row_get (v := .ref (ad 46)) E B iX0 rfl 7 (by decide) mw_311 42 rfl rfl dX0_part_24 ?_
    refine at_pc (n := 27) rfl ?_
    refine lv_iload_n E.1.1 E.1.2.1 dX0_part_27 rfl (lv_at hl 2 rfl) ?_
    refine lv_dup2_11 E.1.1 E.1.2.1 dX0_part_28 rfl rfl ?_
    refine row_lald E B 46 rfl (vp_of rfl (by omega) (by omega)) dX0_part_29 ?_
    refine lv_lconst (v := 1) E.1.1 E.1.2.1 dX0_part_30 (by decide) ?_
    refine lv_iload_n E.1.1 E.1.2.1 dX0_part_31 rfl (lv_at hl 1 rfl) ?_
    refine lv_lshl E.1.1 E.1.2.1 dX0_part_32 rfl (any_l (fun y_8 => ?_))
    refine at_pc (n := 33) rfl ?_
    refine lv_lor E.1.1 E.1.2.1 dX0_part_33 (any_l (fun y_9 => ?_))
    refine row_last E B 46 rfl (vp_of rfl (by omega) (by omega)) dX0_part_34 (fun H locs B => ?_)
    have B := Hp.eq (sx_la_46 ct ad iv ia la_7 pt ra R (vp_updL (la_7 46) p1.toNatClampNeg y_9)) B
    generalize va_up la_7 46 (vp_updL (la_7 46) p1.toNatClampNeg y_9) = la_10 at B
    refine lv_iconst (v := 1) E.1.1 E.1.2.1 dX0_part_35 (by decide) ?_
    have r_11 : (1 : Int32).toInt = 1 := tI_1
    exact ret_I (u := _) E hr hlk (narrow_z (by omega)) B (by omega) dX0_part_36
  · exfalso; omega
set_option maxHeartbeats 4000000 in
set_option maxRecDepth 100000 in
theorem x_0_readRow (l : Launch) (D : va_G) (ct : Nat → ClassId) (tN : Nat) (ad : Nat → Nat) (iv : Nat → Int32) (ia : Nat → Nat → Int32) (la : Nat → Nat → Int64) (pt : Nat → Option Nat) (ra : Nat → Nat → Option Nat) (R : va_W) (p0 : Int32) (h30 : (iv 30).toInt = 0) : MI l D (TY ct) tN yX0_readRow cX0_readRow 4 (some .boolean) ({ frames := 0, cells := 0, slots := 0, locals := 0 } : Room) [.ref (ad 42), .int p0] (XW ct ad iv ia la pt ra R) (fun (v : Int32) (u : Unit) => (p0.toInt = 0 ∧ v.toInt = 1) ∨ (¬ p0.toInt = 0 ∧ v.toInt = 0)) (fun _ => XW ct ad iv ia la pt ra R) 0 0 := by
  intro sz
  refine Met.ofE (Qc := fun A => va_Qi (fun (v : Int32) (u : Unit) => (p0.toInt = 0 ∧ v.toInt = 1) ∨ (¬ p0.toInt = 0 ∧ v.toInt = 0)) (BW D A (fun _ => XW ct ad iv ia la pt ra R)) A) (by decide) (Nat.le_of_ble_eq_true rfl) ?_
  intro p e s m args below meth c A ls hsz E hr hlk hnm B hl
  have hl : lv_has ls 4 [(0, .ref (ad 42)), (1, .int p0)] := hl
  refine lv_iload_n E.1.1 E.1.2.1 dX0_readRow_0 rfl (lv_at hl 1 rfl) ?_
  refine b_ge (tgt := 6) E rfl dX0_readRow_1 (by decide) (fun c_1 => ?_) (fun c_1 => ?_)
  · skip
    refine lv_iload_n E.1.1 E.1.2.1 dX0_readRow_6 rfl (lv_at hl 1 rfl) ?_
    refine lv_istore_n (lv' := [(2, .int p0), (0, .ref (ad 42)), (1, .int p0)]) E.1.1 E.1.2.1 dX0_readRow_7 rfl hl (by decide) rfl (fun ls hl => ?_)
    refine lv_iconst (v := 0) E.1.1 E.1.2.1 dX0_readRow_8 (by decide) ?_
    refine lv_istore_n (lv' := [(3, .int (0 : Int32)), (2, .int p0), (0, .ref (ad 42)), (1, .int p0)]) E.1.1 E.1.2.1 dX0_readRow_9 rfl hl (by decide) rfl (fun ls hl => ?_)
    refine lv_iload_n E.1.1 E.1.2.1 dX0_readRow_10 rfl (lv_at hl 0 rfl) ?_
    refine lv_aload_n E.1.1 E.1.2.1 dX0_readRow_11 rfl (lv_at hl 2 rfl) ?_
    refine at_pc (n := 12) rfl ?_
    refine row_get (v := .int (iv 30)) E B iX0 rfl 11 (by decide) mw_315 42 rfl rfl dX0_readRow_12 ?_
    refine c_ge (tgt := 54) E tI_0 h30 dX0_readRow_15 (by decide) (fun c_2 => ?_) (fun c_2 => ?_)
    · skip
      refine lv_iload_n E.1.1 E.1.2.1 dX0_readRow_54 rfl (lv_at hl 1 rfl) ?_
      refine b_ne (tgt := 62) E rfl dX0_readRow_55 (by decide) (fun c_3 => ?_) (fun c_3 => ?_)
      · skip
        refine lv_iconst (v := 0) E.1.1 E.1.2.1 dX0_readRow_62 (by decide) ?_
        have r_4 : (0 : Int32).toInt = 0 := tI_0
        exact ret_I (u := ()) E hr hlk (narrow_z (by omega)) B (by omega) dX0_readRow_63
      · skip
        refine lv_iconst (v := 1) E.1.1 E.1.2.1 dX0_readRow_58 (by decide) ?_
        refine lv_goto (tgt := 63) E.1.1 E.1.2.1 dX0_readRow_59 (by decide) ?_
        have r_5 : (1 : Int32).toInt = 1 := tI_1
        exact ret_I (u := ()) E hr hlk (narrow_z (by omega)) B (by omega) dX0_readRow_63
    · exfalso; omega
  · skip
    refine lv_iconst (v := 0) E.1.1 E.1.2.1 dX0_readRow_4 (by decide) ?_
    have r_6 : (0 : Int32).toInt = 0 := tI_0
    exact ret_I (u := ()) E hr hlk (narrow_z (by omega)) B (by omega) dX0_readRow_5
set_option maxHeartbeats 4000000 in
set_option maxRecDepth 100000 in
theorem x_0_reckon (l : Launch) (D : va_G) (ct : Nat → ClassId) (tN : Nat) (ad : Nat → Nat) (iv : Nat → Int32) (ia : Nat → Nat → Int32) (la : Nat → Nat → Int64) (pt : Nat → Option Nat) (ra : Nat → Nat → Option Nat) (R : va_W) (p0 : Int32) (h30 : (iv 30).toInt = 0) : MV l D (TY ct) tN yX0_reckon cX0_reckon 4 ({ frames := 0, cells := 0, slots := 0, locals := 0 } : Room) [.ref (ad 42), .int p0] (XW ct ad iv ia la pt ra R) (fun (u : Nat → Nat → Int32) => True) (fun u => XW ct ad iv u la pt ra R) 0 0 := by
  intro sz
  refine Met.ofE (Qc := fun A => va_Qv (fun (u : Nat → Nat → Int32) => True) (BW D A (fun u => XW ct ad iv u la pt ra R)) A) (by decide) (Nat.le_of_ble_eq_true rfl) ?_
  intro p e s m args below meth c A ls hsz E hr hlk hnm B hl
  have hl : lv_has ls 4 [(0, .ref (ad 42)), (1, .int p0)] := hl
  refine lv_iconst (v := 0) E.1.1 E.1.2.1 dX0_reckon_0 (by decide) ?_
  refine lv_istore_n (lv' := [(2, .int (0 : Int32)), (0, .ref (ad 42)), (1, .int p0)]) E.1.1 E.1.2.1 dX0_reckon_1 rfl hl (by decide) rfl (fun ls hl => ?_)
  have lp_1 : ∀ (n : Nat) (i_1 : Int32) (ia_1 : Nat → Nat → Int32) (H : Heap) (locs : List Loc) (ls : Array Slot), 0 ≤ i_1.toInt → i_1.toInt ≤ 24 → 25 ≤ i_1.toInt + 1 * (n : Int) → Hp D A s.heap (XW ct ad iv ia_1 la pt ra R) H locs → lv_has ls 4 [(2, .int i_1), (0, .ref (ad 42)), (1, .int p0)] → W p l e ({ frames := 0, cells := 0, slots := 0, locals := 0 } : Room) s m args below meth c H locs 0 0 (MQ below (va_Qv (fun (u : Nat → Nat → Int32) => True) (BW D A (fun u => XW ct ad iv u la pt ra R)) A) args s 0 0 A) (F0 m 2 ls []) := by
    intro n
    induction n with
    | zero => intro i_1 ia_1 H locs ls h1 h2 h3; exfalso; omega
    | succ n ih =>
      intro i_1 ia_1 H locs ls h1 h2 h3  B hl
      refine lv_iload_n E.1.1 E.1.2.1 dX0_reckon_2 rfl (lv_at hl 0 rfl) ?_
      refine lv_aload_n E.1.1 E.1.2.1 dX0_reckon_3 rfl (lv_at hl 1 rfl) ?_
      refine row_get (v := .ref (ad 47)) E B iX0 rfl 8 (by decide) mw_312 42 rfl rfl dX0_reckon_4 ?_
      refine va_alen (v := 24) E.1.1 E.1.2.1 E.2.1.1 B.1 47 0 rfl rfl rfl dX0_reckon_7 ?_
      refine c_ge (tgt := 31) E rfl tI_24 dX0_reckon_8 (by decide) (fun c_2 => ?_) (fun c_2 => ?_)
      · skip
        refine lv_aload_n E.1.1 E.1.2.1 dX0_reckon_31 rfl (lv_at hl 1 rfl) ?_
        refine row_get (v := .int (iv 30)) E B iX0 rfl 11 (by decide) mw_315 42 rfl rfl dX0_reckon_32 ?_
        refine b_ne (tgt := 39) E h30 dX0_reckon_35 (by decide) (fun c_3 => ?_) (fun c_3 => ?_)
        · exfalso; omega
        · skip
          exact ret_V (u := ia_1) E hr hlk B trivial dX0_reckon_38
      · skip
        refine lv_aload_n E.1.1 E.1.2.1 dX0_reckon_11 rfl (lv_at hl 1 rfl) ?_
        refine row_get (v := .ref (ad 47)) E B iX0 rfl 8 (by decide) mw_312 42 rfl rfl dX0_reckon_12 ?_
        refine lv_iload_n E.1.1 E.1.2.1 dX0_reckon_15 rfl (lv_at hl 0 rfl) ?_
        refine lv_iconst (v := 0) E.1.1 E.1.2.1 dX0_reckon_16 (by decide) ?_
        refine row_iast E B 47 rfl (vp_of rfl (by omega) (by omega)) dX0_reckon_17 (fun H locs B => ?_)
        have B := Hp.eq (sx_ia_47 ct ad iv ia_1 la pt ra R (upd (ia_1 47) i_1.toNatClampNeg (0 : Int32))) B
        generalize va_up ia_1 47 (upd (ia_1 47) i_1.toNatClampNeg (0 : Int32)) = ia_4 at B 
        refine lv_aload_n E.1.1 E.1.2.1 dX0_reckon_18 rfl (lv_at hl 1 rfl) ?_
        refine at_pc (n := 19) rfl ?_
        refine row_get (v := .ref (ad 48)) E B iX0 rfl 9 (by decide) mw_313 42 rfl rfl dX0_reckon_19 ?_
        refine lv_iload_n E.1.1 E.1.2.1 dX0_reckon_22 rfl (lv_at hl 0 rfl) ?_
        refine lv_iconst (v := 0) E.1.1 E.1.2.1 dX0_reckon_23 (by decide) ?_
        refine row_zast E B 48 rfl (vp_of rfl (by omega) (by omega)) dX0_reckon_24 (fun H locs B => ?_)
        have B := Hp.eq (sx_ia_48 ct ad iv ia_4 la pt ra R (upd (ia_4 48) i_1.toNatClampNeg (vp_nar .boolean (0 : Int32)))) B
        generalize va_up ia_4 48 (upd (ia_4 48) i_1.toNatClampNeg (vp_nar .boolean (0 : Int32))) = ia_5 at B 
        refine i_inc (k := 0) E rfl (by decide) (by omega) (by omega) dX0_reckon_25 hl rfl (by decide) (fun z_6 ls ez_6 hl => ?_)
        have hl : lv_has ls 4 [(2, .int z_6), (0, .ref (ad 42)), (1, .int p0)] := hl
        have ez_6 : z_6.toInt = i_1.toInt + 1 := ez_6
        refine lv_goto (tgt := 2) E.1.1 E.1.2.1 dX0_reckon_28 (by decide) ?_
        exact ih _ _ _ _ _ (by omega) (by omega) (by omega)  B (lv_sub hl [0, 1, 2] rfl)
  exact lp_1 25 _ _ _ _ _ (by have := tI_0; omega) (by have := tI_0; omega) (by have := tI_0; omega)  B hl
set_option maxHeartbeats 4000000 in
set_option maxRecDepth 100000 in
theorem x_0_priceOfRow (l : Launch) (D : va_G) (ct : Nat → ClassId) (tN : Nat) (ad : Nat → Nat) (iv : Nat → Int32) (ia : Nat → Nat → Int32) (la : Nat → Nat → Int64) (pt : Nat → Option Nat) (ra : Nat → Nat → Option Nat) (R : va_W)  (h30 : (iv 30).toInt = 0) : MI l D (TY ct) tN yX0_priceOfRow cX0_priceOfRow 3 (some .int) ({ frames := 0, cells := 0, slots := 0, locals := 0 } : Room) [.ref (ad 42)] (XW ct ad iv ia la pt ra R) (fun (v : Int32) (u : Unit) => v.toInt = 0) (fun _ => XW ct ad iv ia la pt ra R) 0 0 := by
  intro sz
  refine Met.ofE (Qc := fun A => va_Qi (fun (v : Int32) (u : Unit) => v.toInt = 0) (BW D A (fun _ => XW ct ad iv ia la pt ra R)) A) (by decide) (Nat.le_of_ble_eq_true rfl) ?_
  intro p e s m args below meth c A ls hsz E hr hlk hnm B hl
  have hl : lv_has ls 3 [(0, .ref (ad 42))] := hl
  refine lv_iconst (v := 0) E.1.1 E.1.2.1 dX0_priceOfRow_0 (by decide) ?_
  refine lv_istore_n (lv' := [(1, .int (0 : Int32)), (0, .ref (ad 42))]) E.1.1 E.1.2.1 dX0_priceOfRow_1 rfl hl (by decide) rfl (fun ls hl => ?_)
  refine lv_iconst (v := 0) E.1.1 E.1.2.1 dX0_priceOfRow_2 (by decide) ?_
  refine lv_istore_n (lv' := [(2, .int (0 : Int32)), (1, .int (0 : Int32)), (0, .ref (ad 42))]) E.1.1 E.1.2.1 dX0_priceOfRow_3 rfl hl (by decide) rfl (fun ls hl => ?_)
  refine lv_iload_n E.1.1 E.1.2.1 dX0_priceOfRow_4 rfl (lv_at hl 0 rfl) ?_
  refine lv_aload_n E.1.1 E.1.2.1 dX0_priceOfRow_5 rfl (lv_at hl 2 rfl) ?_
  refine at_pc (n := 6) rfl ?_
  refine row_get (v := .int (iv 30)) E B iX0 rfl 11 (by decide) mw_315 42 rfl rfl dX0_priceOfRow_6 ?_
  refine c_ge (tgt := 47) E tI_0 h30 dX0_priceOfRow_9 (by decide) (fun c_1 => ?_) (fun c_1 => ?_)
  · skip
    refine lv_iload_n E.1.1 E.1.2.1 dX0_priceOfRow_47 rfl (lv_at hl 1 rfl) ?_
    have r_2 : (0 : Int32).toInt = 0 := tI_0
    exact ret_I (u := ()) E hr hlk rfl B (by omega) dX0_priceOfRow_48
  · exfalso; omega
set_option maxHeartbeats 4000000 in
set_option maxRecDepth 100000 in
theorem x_0_choiceOfRow (l : Launch) (D : va_G) (ct : Nat → ClassId) (tN : Nat) (ad : Nat → Nat) (iv : Nat → Int32) (ia : Nat → Nat → Int32) (la : Nat → Nat → Int64) (pt : Nat → Option Nat) (ra : Nat → Nat → Option Nat) (R : va_W)  (h30 : (iv 30).toInt = 0) : MI l D (TY ct) tN yX0_choiceOfRow cX0_choiceOfRow 3 (some .int) ({ frames := 0, cells := 0, slots := 0, locals := 0 } : Room) [.ref (ad 42)] (XW ct ad iv ia la pt ra R) (fun (v : Int32) (u : Unit) => v.toInt = 0) (fun _ => XW ct ad iv ia la pt ra R) 0 0 := by
  intro sz
  refine Met.ofE (Qc := fun A => va_Qi (fun (v : Int32) (u : Unit) => v.toInt = 0) (BW D A (fun _ => XW ct ad iv ia la pt ra R)) A) (by decide) (Nat.le_of_ble_eq_true rfl) ?_
  intro p e s m args below meth c A ls hsz E hr hlk hnm B hl
  have hl : lv_has ls 3 [(0, .ref (ad 42))] := hl
  refine lv_iconst (v := 0) E.1.1 E.1.2.1 dX0_choiceOfRow_0 (by decide) ?_
  refine lv_istore_n (lv' := [(1, .int (0 : Int32)), (0, .ref (ad 42))]) E.1.1 E.1.2.1 dX0_choiceOfRow_1 rfl hl (by decide) rfl (fun ls hl => ?_)
  refine lv_aload_n E.1.1 E.1.2.1 dX0_choiceOfRow_2 rfl (lv_at hl 1 rfl) ?_
  refine row_get (v := .int (iv 30)) E B iX0 rfl 11 (by decide) mw_315 42 rfl rfl dX0_choiceOfRow_3 ?_
  refine lv_iconst (v := 1) E.1.1 E.1.2.1 dX0_choiceOfRow_6 (by decide) ?_
  refine i_sub E h30 tI_1 (by omega) (by omega) dX0_choiceOfRow_7 (fun z_1 ez_1 => ?_)
  have ez_1 : z_1.toInt = -1 := by omega
  refine at_pc (n := 8) rfl ?_
  refine lv_istore_n (lv' := [(2, .int z_1), (1, .int (0 : Int32)), (0, .ref (ad 42))]) E.1.1 E.1.2.1 dX0_choiceOfRow_8 rfl hl (by decide) rfl (fun ls hl => ?_)
  refine lv_iload_n E.1.1 E.1.2.1 dX0_choiceOfRow_9 rfl (lv_at hl 0 rfl) ?_
  refine b_lt (tgt := 30) E ez_1 dX0_choiceOfRow_10 (by decide) (fun c_2 => ?_) (fun c_2 => ?_)
  · skip
    refine lv_iload_n E.1.1 E.1.2.1 dX0_choiceOfRow_30 rfl (lv_at hl 1 rfl) ?_
    have r_3 : (0 : Int32).toInt = 0 := tI_0
    exact ret_I (u := ()) E hr hlk rfl B (by omega) dX0_choiceOfRow_31
  · exfalso; omega
set_option maxHeartbeats 4000000 in
set_option maxRecDepth 100000 in
theorem x_0_choose (l : Launch) (D : va_G) (ct : Nat → ClassId) (tN : Nat) (ad : Nat → Nat) (iv : Nat → Int32) (ia : Nat → Nat → Int32) (la : Nat → Nat → Int64) (pt : Nat → Option Nat) (ra : Nat → Nat → Option Nat) (R : va_W) (p0 : Int32) (p1 : Int32) (h30 : (iv 30).toInt = 0) (h31 : (iv 31).toInt = 2147483647) (q0 : p0.toInt = 0) (q1 : p1.toInt = 0) : MV l D (TY ct) tN yX0_choose cX0_choose 4 ({ frames := 1, cells := 0, slots := 0, locals := 22 } : Room) [.ref (ad 42), .int p0, .int p1] (XW ct ad iv ia la pt ra R) (fun (u : Nat → Int32) => (u 32).toInt = 0) (fun u => XW ct ad u ia la pt ra R) 0 0 := by
  intro sz
  refine Met.ofE (Qc := fun A => va_Qv (fun (u : Nat → Int32) => (u 32).toInt = 0) (BW D A (fun u => XW ct ad u ia la pt ra R)) A) (by decide) (Nat.le_of_ble_eq_true rfl) ?_
  intro p e s m args below meth c A ls hsz E hr hlk hnm B hl
  have hl : lv_has ls 4 [(0, .ref (ad 42)), (1, .int p0), (2, .int p1)] := hl
  refine lv_iload_n E.1.1 E.1.2.1 dX0_choose_0 rfl (lv_at hl 2 rfl) ?_
  refine lv_aload_n E.1.1 E.1.2.1 dX0_choose_1 rfl (lv_at hl 0 rfl) ?_
  refine row_get (v := .int (iv 31)) E B iX0 rfl 12 (by decide) mw_316 42 rfl rfl dX0_choose_2 ?_
  refine c_lt (tgt := 9) E q1 h31 dX0_choose_5 (by decide) (fun c_1 => ?_) (fun c_1 => ?_)
  · skip
    refine lv_iload_n E.1.1 E.1.2.1 dX0_choose_9 rfl (lv_at hl 1 rfl) ?_
    refine lv_aload_n E.1.1 E.1.2.1 dX0_choose_10 rfl (lv_at hl 0 rfl) ?_
    refine row_get (v := .int (iv 30)) E B iX0 rfl 11 (by decide) mw_315 42 rfl rfl dX0_choose_11 ?_
    refine c_lt (tgt := 31) E q0 h30 dX0_choose_14 (by decide) (fun c_2 => ?_) (fun c_2 => ?_)
    · exfalso; omega
    · skip
      refine lv_aload_n E.1.1 E.1.2.1 dX0_choose_17 rfl (lv_at hl 0 rfl) ?_
      refine lv_iload_n E.1.1 E.1.2.1 dX0_choose_18 rfl (lv_at hl 2 rfl) ?_
      refine row_put E B iX0 rfl tyX0 tyX0_ok nmX0 12 (by decide) mw_316 rfl 42 rfl rfl rfl (Nat.le_of_ble_eq_true rfl) dX0_choose_19 (fun H locs B => ?_)
      have B := Hp.eq (sx_iv_31 ct ad iv ia la pt ra R p1) B
      have h_4 : ((va_up iv 31 p1) 30).toInt = 0 := h30
      have h_5 : ((va_up iv 31 p1) 31).toInt = 0 := q1
      generalize va_up iv 31 p1 = iv_3 at B h_4 h_5
      refine lv_aload_n E.1.1 E.1.2.1 dX0_choose_22 rfl (lv_at hl 0 rfl) ?_
      refine lv_aload_n E.1.1 E.1.2.1 dX0_choose_23 rfl (lv_at hl 0 rfl) ?_
      refine call_VI (kn := 0) E B (x_0_choiceOfRow l D ct tN ad iv_3 ia la pt ra R   h_4) (good_V mw_1285 mw_1287 ms_60 mw_10 mw_1288) 42 rfl rfl ⟨rfl, by decide +kernel⟩ rfl rfl rfl ⟨by decide, by decide⟩ rfl hl (Nat.le_of_ble_eq_true rfl) dX0_choose_24 ⟨Nat.le_of_ble_eq_true rfl, Nat.le_of_ble_eq_true rfl⟩ (fun v_6 u_7 H locs w_8 B => ?_)
      have w_8 : v_6.toInt = 0 := w_8
      have B : Hp D A s.heap (XW ct ad iv_3 ia la pt ra R) H locs := B
      refine at_n (n := 27) (k1 := 0) (k2 := 0) rfl rfl rfl ?_
      refine row_put E B iX0 rfl tyX0 tyX0_ok nmX0 13 (by decide) mw_317 rfl 42 rfl rfl rfl (Nat.le_of_ble_eq_true rfl) dX0_choose_27 (fun H locs B => ?_)
      have B := Hp.eq (sx_iv_32 ct ad iv_3 ia la pt ra R v_6) B
      have h_10 : ((va_up iv_3 32 v_6) 30).toInt = 0 := h_4
      have h_11 : ((va_up iv_3 32 v_6) 31).toInt = 0 := h_5
      have h_12 : ((va_up iv_3 32 v_6) 32).toInt = 0 := w_8
      generalize va_up iv_3 32 v_6 = iv_9 at B h_10 h_11 h_12
      exact ret_V (u := iv_9) E hr hlk B (by have := h_12; omega) dX0_choose_30
  · exfalso; omega
set_option maxHeartbeats 4000000 in
set_option maxRecDepth 100000 in
theorem x_0_leastPriced (l : Launch) (D : va_G) (ct : Nat → ClassId) (tN : Nat) (ad : Nat → Nat) (iv : Nat → Int32) (ia : Nat → Nat → Int32) (la : Nat → Nat → Int64) (pt : Nat → Option Nat) (ra : Nat → Nat → Option Nat) (R : va_W)  (h30 : (iv 30).toInt = 0) : MI l D (TY ct) tN yX0_leastPriced cX0_leastPriced 1 (some .int) ({ frames := 2, cells := 0, slots := 0, locals := 45 } : Room) [.ref (ad 42)] (XW ct ad iv ia la pt ra R) (fun (v : Int32) (u : va_W) => v.toInt = 0) (fun u => u) 0 0 := by
  intro sz
  refine Met.ofE (Qc := fun A => va_Qi (fun (v : Int32) (u : va_W) => v.toInt = 0) (BW D A (fun u => u)) A) (by decide) (Nat.le_of_ble_eq_true rfl) ?_
  intro p e s m args below meth c A ls hsz E hr hlk hnm B hl
  have hl : lv_has ls 1 [(0, .ref (ad 42))] := hl
  refine lv_aload_n E.1.1 E.1.2.1 dX0_leastPriced_0 rfl (lv_at hl 0 rfl) ?_
  refine lv_ldc (v := 2147483647) E.1.1 E.1.2.1 E.1.2.2.2.1 (E.1.2.2.2.2 _ mw_1280) dX0_leastPriced_1 ?_
  refine row_put E B iX0 rfl tyX0 tyX0_ok nmX0 12 (by decide) mw_316 rfl 42 rfl rfl rfl (Nat.le_of_ble_eq_true rfl) dX0_leastPriced_3 (fun H locs B => ?_)
  have B := Hp.eq (sx_iv_31 ct ad iv ia la pt ra R ((2147483647 : Int32))) B
  have h_2 : ((va_up iv 31 (2147483647 : Int32)) 30).toInt = 0 := h30
  have h_3 : ((va_up iv 31 (2147483647 : Int32)) 31).toInt = 2147483647 := tI_2147483647
  generalize va_up iv 31 (2147483647 : Int32) = iv_1 at B h_2 h_3
  refine lv_aload_n E.1.1 E.1.2.1 dX0_leastPriced_6 rfl (lv_at hl 0 rfl) ?_
  refine lv_iconst (v := -1) E.1.1 E.1.2.1 dX0_leastPriced_7 (by decide) ?_
  refine row_put E B iX0 rfl tyX0 tyX0_ok nmX0 13 (by decide) mw_317 rfl 42 rfl rfl rfl (Nat.le_of_ble_eq_true rfl) dX0_leastPriced_8 (fun H locs B => ?_)
  have B := Hp.eq (sx_iv_32 ct ad iv_1 ia la pt ra R ((-1 : Int32))) B
  have h_5 : ((va_up iv_1 32 (-1 : Int32)) 30).toInt = 0 := h_2
  have h_6 : ((va_up iv_1 32 (-1 : Int32)) 31).toInt = 2147483647 := h_3
  have h_7 : ((va_up iv_1 32 (-1 : Int32)) 32).toInt = -1 := tI_m1
  generalize va_up iv_1 32 (-1 : Int32) = iv_4 at B h_5 h_6 h_7
  refine at_pc (n := 11) rfl ?_
  refine lv_aload_n E.1.1 E.1.2.1 dX0_leastPriced_11 rfl (lv_at hl 0 rfl) ?_
  refine lv_iconst (v := 0) E.1.1 E.1.2.1 dX0_leastPriced_12 (by decide) ?_
  refine lv_iconst (v := 0) E.1.1 E.1.2.1 dX0_leastPriced_13 (by decide) ?_
  refine call_VV (kn := 2) E B (x_0_choose l D ct tN ad iv_4 ia la pt ra R  ((0 : Int32)) ((0 : Int32)) h_5 h_6 (by have := tI_0; omega) (by have := tI_0; omega)) (good_V mw_1281 mw_1283 ms_59 mw_10 mw_1284) 42 rfl rfl ⟨rfl, by decide +kernel⟩ rfl rfl rfl ⟨by decide, by decide⟩ rfl hl (Nat.le_of_ble_eq_true rfl) dX0_leastPriced_14 ⟨Nat.le_of_ble_eq_true rfl, Nat.le_of_ble_eq_true rfl⟩ (fun u_9 H locs w_10 B => ?_)
  have h_11 := w_10
  have h_11 : (u_9 32).toInt = 0 := h_11
  have B : Hp D A s.heap (XW ct ad u_9 ia la pt ra R) H locs := B
  refine at_n (n := 17) (k1 := 0) (k2 := 0) rfl rfl rfl ?_
  refine lv_aload_n E.1.1 E.1.2.1 dX0_leastPriced_17 rfl (lv_at hl 0 rfl) ?_
  refine row_get (v := .int (u_9 32)) E B iX0 rfl 13 (by decide) mw_317 42 rfl rfl dX0_leastPriced_18 ?_
  have r_12 : (u_9 32).toInt = 0 := h_11
  exact ret_I (u := _) E hr hlk rfl B (by omega) dX0_leastPriced_21
set_option maxHeartbeats 4000000 in
set_option maxRecDepth 100000 in
theorem x_5_gatherBooks (l : Launch) (D : va_G) (ct : Nat → ClassId) (tN : Nat) (ad : Nat → Nat) (iv : Nat → Int32) (ia : Nat → Nat → Int32) (la : Nat → Nat → Int64) (pt : Nat → Option Nat) (ra : Nat → Nat → Option Nat) (R : va_W)  (h3 : (iv 3).toInt = 0) (g51 : ∀ j, (ia 51 j).toInt = 0) : MV l D (TY ct) tN yX5_gatherBooks cX5_gatherBooks 3 ({ frames := 1, cells := 0, slots := 0, locals := 20 } : Room) [.ref (ad 50)] (XW ct ad iv ia la pt ra R) (fun (u : (Nat → Int32) × (Nat → Nat → Int32)) => (u.1 33).toInt = 0) (fun u => XW ct ad u.1 u.2 la pt ra R) 0 0 := by
  intro sz
  refine Met.ofE (Qc := fun A => va_Qv (fun (u : (Nat → Int32) × (Nat → Nat → Int32)) => (u.1 33).toInt = 0) (BW D A (fun u => XW ct ad u.1 u.2 la pt ra R)) A) (by decide) (Nat.le_of_ble_eq_true rfl) ?_
  intro p e s m args below meth c A ls hsz E hr hlk hnm B hl
  have hl : lv_has ls 3 [(0, .ref (ad 50))] := hl
  refine lv_iconst (v := 0) E.1.1 E.1.2.1 dX5_gatherBooks_0 (by decide) ?_
  refine lv_istore_n (lv' := [(1, .int (0 : Int32)), (0, .ref (ad 50))]) E.1.1 E.1.2.1 dX5_gatherBooks_1 rfl hl (by decide) rfl (fun ls hl => ?_)
  refine lv_iload_n E.1.1 E.1.2.1 dX5_gatherBooks_2 rfl (lv_at hl 0 rfl) ?_
  refine lv_bipush (v := 8) E.1.1 E.1.2.1 dX5_gatherBooks_3 (by decide) ?_
  refine c_ge (tgt := 21) E tI_0 tI_8 dX5_gatherBooks_5 (by decide) (fun c_1 => ?_) (fun c_1 => ?_)
  · exfalso; omega
  · skip
    refine lv_aload_n E.1.1 E.1.2.1 dX5_gatherBooks_8 rfl (lv_at hl 1 rfl) ?_
    refine row_get (v := .ref (ad 51)) E B iX5 rfl 3 (by decide) mw_357 50 rfl rfl dX5_gatherBooks_9 ?_
    refine lv_iload_n E.1.1 E.1.2.1 dX5_gatherBooks_12 rfl (lv_at hl 0 rfl) ?_
    refine lv_iconst (v := 0) E.1.1 E.1.2.1 dX5_gatherBooks_13 (by decide) ?_
    refine row_iast E B 51 rfl (vp_of tI_0 (by omega) (by omega)) dX5_gatherBooks_14 (fun H locs B => ?_)
    have B := Hp.eq (sx_ia_51 ct ad iv ia la pt ra R (upd (ia 51) (0 : Int32).toNatClampNeg (0 : Int32))) B
    have a_3 : ∀ j, ((va_up ia 51 (upd (ia 51) (0 : Int32).toNatClampNeg (0 : Int32))) 51 j).toInt = 0 := upd_all g51 tI_0
    generalize va_up ia 51 (upd (ia 51) (0 : Int32).toNatClampNeg (0 : Int32)) = ia_2 at B a_3
    refine lv_iinc (v := 1) (lv' := [(1, .int (1 : Int32)), (0, .ref (ad 50))]) E.1.1 E.1.2.1 dX5_gatherBooks_15 hl (k := 0) rfl (by decide) (by decide) rfl (fun ls hl => ?_)
    refine at_pc (n := 18) rfl ?_
    refine lv_goto (tgt := 2) E.1.1 E.1.2.1 dX5_gatherBooks_18 (by decide) ?_
    refine lv_iload_n E.1.1 E.1.2.1 dX5_gatherBooks_2 rfl (lv_at hl 0 rfl) ?_
    refine lv_bipush (v := 8) E.1.1 E.1.2.1 dX5_gatherBooks_3 (by decide) ?_
    refine c_ge (tgt := 21) E tI_1 tI_8 dX5_gatherBooks_5 (by decide) (fun c_4 => ?_) (fun c_4 => ?_)
    · exfalso; omega
    · skip
      refine lv_aload_n E.1.1 E.1.2.1 dX5_gatherBooks_8 rfl (lv_at hl 1 rfl) ?_
      refine row_get (v := .ref (ad 51)) E B iX5 rfl 3 (by decide) mw_357 50 rfl rfl dX5_gatherBooks_9 ?_
      refine lv_iload_n E.1.1 E.1.2.1 dX5_gatherBooks_12 rfl (lv_at hl 0 rfl) ?_
      refine lv_iconst (v := 0) E.1.1 E.1.2.1 dX5_gatherBooks_13 (by decide) ?_
      refine row_iast E B 51 rfl (vp_of tI_1 (by omega) (by omega)) dX5_gatherBooks_14 (fun H locs B => ?_)
      have B := Hp.eq (sx_ia_51 ct ad iv ia_2 la pt ra R (upd (ia_2 51) (1 : Int32).toNatClampNeg (0 : Int32))) B
      have a_6 : ∀ j, ((va_up ia_2 51 (upd (ia_2 51) (1 : Int32).toNatClampNeg (0 : Int32))) 51 j).toInt = 0 := upd_all a_3 tI_0
      generalize va_up ia_2 51 (upd (ia_2 51) (1 : Int32).toNatClampNeg (0 : Int32)) = ia_5 at B a_6
      refine lv_iinc (v := 2) (lv' := [(1, .int (2 : Int32)), (0, .ref (ad 50))]) E.1.1 E.1.2.1 dX5_gatherBooks_15 hl (k := 0) rfl (by decide) (by decide) rfl (fun ls hl => ?_)
      refine at_pc (n := 18) rfl ?_
      refine lv_goto (tgt := 2) E.1.1 E.1.2.1 dX5_gatherBooks_18 (by decide) ?_
      refine lv_iload_n E.1.1 E.1.2.1 dX5_gatherBooks_2 rfl (lv_at hl 0 rfl) ?_
      refine lv_bipush (v := 8) E.1.1 E.1.2.1 dX5_gatherBooks_3 (by decide) ?_
      refine c_ge (tgt := 21) E tI_2 tI_8 dX5_gatherBooks_5 (by decide) (fun c_7 => ?_) (fun c_7 => ?_)
      · exfalso; omega
      · skip
        refine lv_aload_n E.1.1 E.1.2.1 dX5_gatherBooks_8 rfl (lv_at hl 1 rfl) ?_
        refine row_get (v := .ref (ad 51)) E B iX5 rfl 3 (by decide) mw_357 50 rfl rfl dX5_gatherBooks_9 ?_
        refine lv_iload_n E.1.1 E.1.2.1 dX5_gatherBooks_12 rfl (lv_at hl 0 rfl) ?_
        refine lv_iconst (v := 0) E.1.1 E.1.2.1 dX5_gatherBooks_13 (by decide) ?_
        refine row_iast E B 51 rfl (vp_of tI_2 (by omega) (by omega)) dX5_gatherBooks_14 (fun H locs B => ?_)
        have B := Hp.eq (sx_ia_51 ct ad iv ia_5 la pt ra R (upd (ia_5 51) (2 : Int32).toNatClampNeg (0 : Int32))) B
        have a_9 : ∀ j, ((va_up ia_5 51 (upd (ia_5 51) (2 : Int32).toNatClampNeg (0 : Int32))) 51 j).toInt = 0 := upd_all a_6 tI_0
        generalize va_up ia_5 51 (upd (ia_5 51) (2 : Int32).toNatClampNeg (0 : Int32)) = ia_8 at B a_9
        refine lv_iinc (v := 3) (lv' := [(1, .int (3 : Int32)), (0, .ref (ad 50))]) E.1.1 E.1.2.1 dX5_gatherBooks_15 hl (k := 0) rfl (by decide) (by decide) rfl (fun ls hl => ?_)
        refine at_pc (n := 18) rfl ?_
        refine lv_goto (tgt := 2) E.1.1 E.1.2.1 dX5_gatherBooks_18 (by decide) ?_
        refine lv_iload_n E.1.1 E.1.2.1 dX5_gatherBooks_2 rfl (lv_at hl 0 rfl) ?_
        refine lv_bipush (v := 8) E.1.1 E.1.2.1 dX5_gatherBooks_3 (by decide) ?_
        refine c_ge (tgt := 21) E tI_3 tI_8 dX5_gatherBooks_5 (by decide) (fun c_10 => ?_) (fun c_10 => ?_)
        · exfalso; omega
        · skip
          refine lv_aload_n E.1.1 E.1.2.1 dX5_gatherBooks_8 rfl (lv_at hl 1 rfl) ?_
          refine row_get (v := .ref (ad 51)) E B iX5 rfl 3 (by decide) mw_357 50 rfl rfl dX5_gatherBooks_9 ?_
          refine lv_iload_n E.1.1 E.1.2.1 dX5_gatherBooks_12 rfl (lv_at hl 0 rfl) ?_
          refine lv_iconst (v := 0) E.1.1 E.1.2.1 dX5_gatherBooks_13 (by decide) ?_
          refine row_iast E B 51 rfl (vp_of tI_3 (by omega) (by omega)) dX5_gatherBooks_14 (fun H locs B => ?_)
          have B := Hp.eq (sx_ia_51 ct ad iv ia_8 la pt ra R (upd (ia_8 51) (3 : Int32).toNatClampNeg (0 : Int32))) B
          have a_12 : ∀ j, ((va_up ia_8 51 (upd (ia_8 51) (3 : Int32).toNatClampNeg (0 : Int32))) 51 j).toInt = 0 := upd_all a_9 tI_0
          generalize va_up ia_8 51 (upd (ia_8 51) (3 : Int32).toNatClampNeg (0 : Int32)) = ia_11 at B a_12
          refine lv_iinc (v := 4) (lv' := [(1, .int (4 : Int32)), (0, .ref (ad 50))]) E.1.1 E.1.2.1 dX5_gatherBooks_15 hl (k := 0) rfl (by decide) (by decide) rfl (fun ls hl => ?_)
          refine at_pc (n := 18) rfl ?_
          refine lv_goto (tgt := 2) E.1.1 E.1.2.1 dX5_gatherBooks_18 (by decide) ?_
          refine lv_iload_n E.1.1 E.1.2.1 dX5_gatherBooks_2 rfl (lv_at hl 0 rfl) ?_
          refine lv_bipush (v := 8) E.1.1 E.1.2.1 dX5_gatherBooks_3 (by decide) ?_
          refine c_ge (tgt := 21) E tI_4 tI_8 dX5_gatherBooks_5 (by decide) (fun c_13 => ?_) (fun c_13 => ?_)
          · exfalso; omega
          · skip
            refine lv_aload_n E.1.1 E.1.2.1 dX5_gatherBooks_8 rfl (lv_at hl 1 rfl) ?_
            refine row_get (v := .ref (ad 51)) E B iX5 rfl 3 (by decide) mw_357 50 rfl rfl dX5_gatherBooks_9 ?_
            refine lv_iload_n E.1.1 E.1.2.1 dX5_gatherBooks_12 rfl (lv_at hl 0 rfl) ?_
            refine lv_iconst (v := 0) E.1.1 E.1.2.1 dX5_gatherBooks_13 (by decide) ?_
            refine row_iast E B 51 rfl (vp_of tI_4 (by omega) (by omega)) dX5_gatherBooks_14 (fun H locs B => ?_)
            have B := Hp.eq (sx_ia_51 ct ad iv ia_11 la pt ra R (upd (ia_11 51) (4 : Int32).toNatClampNeg (0 : Int32))) B
            have a_15 : ∀ j, ((va_up ia_11 51 (upd (ia_11 51) (4 : Int32).toNatClampNeg (0 : Int32))) 51 j).toInt = 0 := upd_all a_12 tI_0
            generalize va_up ia_11 51 (upd (ia_11 51) (4 : Int32).toNatClampNeg (0 : Int32)) = ia_14 at B a_15
            refine lv_iinc (v := 5) (lv' := [(1, .int (5 : Int32)), (0, .ref (ad 50))]) E.1.1 E.1.2.1 dX5_gatherBooks_15 hl (k := 0) rfl (by decide) (by decide) rfl (fun ls hl => ?_)
            refine at_pc (n := 18) rfl ?_
            refine lv_goto (tgt := 2) E.1.1 E.1.2.1 dX5_gatherBooks_18 (by decide) ?_
            refine lv_iload_n E.1.1 E.1.2.1 dX5_gatherBooks_2 rfl (lv_at hl 0 rfl) ?_
            refine lv_bipush (v := 8) E.1.1 E.1.2.1 dX5_gatherBooks_3 (by decide) ?_
            refine c_ge (tgt := 21) E tI_5 tI_8 dX5_gatherBooks_5 (by decide) (fun c_16 => ?_) (fun c_16 => ?_)
            · exfalso; omega
            · skip
              refine lv_aload_n E.1.1 E.1.2.1 dX5_gatherBooks_8 rfl (lv_at hl 1 rfl) ?_
              refine row_get (v := .ref (ad 51)) E B iX5 rfl 3 (by decide) mw_357 50 rfl rfl dX5_gatherBooks_9 ?_
              refine lv_iload_n E.1.1 E.1.2.1 dX5_gatherBooks_12 rfl (lv_at hl 0 rfl) ?_
              refine lv_iconst (v := 0) E.1.1 E.1.2.1 dX5_gatherBooks_13 (by decide) ?_
              refine row_iast E B 51 rfl (vp_of tI_5 (by omega) (by omega)) dX5_gatherBooks_14 (fun H locs B => ?_)
              have B := Hp.eq (sx_ia_51 ct ad iv ia_14 la pt ra R (upd (ia_14 51) (5 : Int32).toNatClampNeg (0 : Int32))) B
              have a_18 : ∀ j, ((va_up ia_14 51 (upd (ia_14 51) (5 : Int32).toNatClampNeg (0 : Int32))) 51 j).toInt = 0 := upd_all a_15 tI_0
              generalize va_up ia_14 51 (upd (ia_14 51) (5 : Int32).toNatClampNeg (0 : Int32)) = ia_17 at B a_18
              refine lv_iinc (v := 6) (lv' := [(1, .int (6 : Int32)), (0, .ref (ad 50))]) E.1.1 E.1.2.1 dX5_gatherBooks_15 hl (k := 0) rfl (by decide) (by decide) rfl (fun ls hl => ?_)
              refine at_pc (n := 18) rfl ?_
              refine lv_goto (tgt := 2) E.1.1 E.1.2.1 dX5_gatherBooks_18 (by decide) ?_
              refine lv_iload_n E.1.1 E.1.2.1 dX5_gatherBooks_2 rfl (lv_at hl 0 rfl) ?_
              refine lv_bipush (v := 8) E.1.1 E.1.2.1 dX5_gatherBooks_3 (by decide) ?_
              refine c_ge (tgt := 21) E tI_6 tI_8 dX5_gatherBooks_5 (by decide) (fun c_19 => ?_) (fun c_19 => ?_)
              · exfalso; omega
              · skip
                refine lv_aload_n E.1.1 E.1.2.1 dX5_gatherBooks_8 rfl (lv_at hl 1 rfl) ?_
                refine row_get (v := .ref (ad 51)) E B iX5 rfl 3 (by decide) mw_357 50 rfl rfl dX5_gatherBooks_9 ?_
                refine lv_iload_n E.1.1 E.1.2.1 dX5_gatherBooks_12 rfl (lv_at hl 0 rfl) ?_
                refine lv_iconst (v := 0) E.1.1 E.1.2.1 dX5_gatherBooks_13 (by decide) ?_
                refine row_iast E B 51 rfl (vp_of tI_6 (by omega) (by omega)) dX5_gatherBooks_14 (fun H locs B => ?_)
                have B := Hp.eq (sx_ia_51 ct ad iv ia_17 la pt ra R (upd (ia_17 51) (6 : Int32).toNatClampNeg (0 : Int32))) B
                have a_21 : ∀ j, ((va_up ia_17 51 (upd (ia_17 51) (6 : Int32).toNatClampNeg (0 : Int32))) 51 j).toInt = 0 := upd_all a_18 tI_0
                generalize va_up ia_17 51 (upd (ia_17 51) (6 : Int32).toNatClampNeg (0 : Int32)) = ia_20 at B a_21
                refine lv_iinc (v := 7) (lv' := [(1, .int (7 : Int32)), (0, .ref (ad 50))]) E.1.1 E.1.2.1 dX5_gatherBooks_15 hl (k := 0) rfl (by decide) (by decide) rfl (fun ls hl => ?_)
                refine at_pc (n := 18) rfl ?_
                refine lv_goto (tgt := 2) E.1.1 E.1.2.1 dX5_gatherBooks_18 (by decide) ?_
                refine lv_iload_n E.1.1 E.1.2.1 dX5_gatherBooks_2 rfl (lv_at hl 0 rfl) ?_
                refine lv_bipush (v := 8) E.1.1 E.1.2.1 dX5_gatherBooks_3 (by decide) ?_
                refine c_ge (tgt := 21) E tI_7 tI_8 dX5_gatherBooks_5 (by decide) (fun c_22 => ?_) (fun c_22 => ?_)
                · exfalso; omega
                · skip
                  refine lv_aload_n E.1.1 E.1.2.1 dX5_gatherBooks_8 rfl (lv_at hl 1 rfl) ?_
                  refine row_get (v := .ref (ad 51)) E B iX5 rfl 3 (by decide) mw_357 50 rfl rfl dX5_gatherBooks_9 ?_
                  refine lv_iload_n E.1.1 E.1.2.1 dX5_gatherBooks_12 rfl (lv_at hl 0 rfl) ?_
                  refine lv_iconst (v := 0) E.1.1 E.1.2.1 dX5_gatherBooks_13 (by decide) ?_
                  refine row_iast E B 51 rfl (vp_of tI_7 (by omega) (by omega)) dX5_gatherBooks_14 (fun H locs B => ?_)
                  have B := Hp.eq (sx_ia_51 ct ad iv ia_20 la pt ra R (upd (ia_20 51) (7 : Int32).toNatClampNeg (0 : Int32))) B
                  have a_24 : ∀ j, ((va_up ia_20 51 (upd (ia_20 51) (7 : Int32).toNatClampNeg (0 : Int32))) 51 j).toInt = 0 := upd_all a_21 tI_0
                  generalize va_up ia_20 51 (upd (ia_20 51) (7 : Int32).toNatClampNeg (0 : Int32)) = ia_23 at B a_24
                  refine lv_iinc (v := 8) (lv' := [(1, .int (8 : Int32)), (0, .ref (ad 50))]) E.1.1 E.1.2.1 dX5_gatherBooks_15 hl (k := 0) rfl (by decide) (by decide) rfl (fun ls hl => ?_)
                  refine at_pc (n := 18) rfl ?_
                  refine lv_goto (tgt := 2) E.1.1 E.1.2.1 dX5_gatherBooks_18 (by decide) ?_
                  refine lv_iload_n E.1.1 E.1.2.1 dX5_gatherBooks_2 rfl (lv_at hl 0 rfl) ?_
                  refine lv_bipush (v := 8) E.1.1 E.1.2.1 dX5_gatherBooks_3 (by decide) ?_
                  refine c_ge (tgt := 21) E tI_8 tI_8 dX5_gatherBooks_5 (by decide) (fun c_25 => ?_) (fun c_25 => ?_)
                  · skip
                    refine lv_iconst (v := 0) E.1.1 E.1.2.1 dX5_gatherBooks_21 (by decide) ?_
                    refine lv_istore_n (lv' := [(1, .int (0 : Int32)), (0, .ref (ad 50))]) E.1.1 E.1.2.1 dX5_gatherBooks_22 rfl hl (by decide) rfl (fun ls hl => ?_)
                    refine lv_iload_n E.1.1 E.1.2.1 dX5_gatherBooks_23 rfl (lv_at hl 0 rfl) ?_
                    refine lv_aload_n E.1.1 E.1.2.1 dX5_gatherBooks_24 rfl (lv_at hl 1 rfl) ?_
                    refine row_get (v := .ref (ad 6)) E B iX5 rfl 0 (by decide) mw_354 50 rfl rfl dX5_gatherBooks_25 ?_
                    refine call_VI (kn := 0) E B (x_9_size l D ct tN ad iv ia_23 la pt ra R   h3) (good_V mw_1370 mw_1150 mw_1151 mw_3 mw_1152) 6 rfl rfl ⟨rfl, by decide +kernel⟩ rfl rfl rfl ⟨by decide, by decide⟩ rfl hl (Nat.le_of_ble_eq_true rfl) dX5_gatherBooks_28 ⟨Nat.le_of_ble_eq_true rfl, Nat.le_of_ble_eq_true rfl⟩ (fun v_26 u_27 H locs w_28 B => ?_)
                    have w_28 : v_26.toInt = 0 := w_28
                    have B : Hp D A s.heap (XW ct ad iv ia_23 la pt ra R) H locs := B
                    refine at_n (n := 31) (k1 := 0) (k2 := 0) rfl rfl rfl ?_
                    refine c_ge (tgt := 81) E tI_0 w_28 dX5_gatherBooks_31 (by decide) (fun c_29 => ?_) (fun c_29 => ?_)
                    · skip
                      refine lv_aload_n E.1.1 E.1.2.1 dX5_gatherBooks_81 rfl (lv_at hl 1 rfl) ?_
                      refine lv_iconst (v := 0) E.1.1 E.1.2.1 dX5_gatherBooks_82 (by decide) ?_
                      refine row_put E B iX5 rfl tyX5 tyX5_ok nmX5 8 (by decide) mw_362 rfl 50 rfl rfl rfl (Nat.le_of_ble_eq_true rfl) dX5_gatherBooks_83 (fun H locs B => ?_)
                      have B := Hp.eq (sx_iv_33 ct ad iv ia_23 la pt ra R ((0 : Int32))) B
                      have h_31 : ((va_up iv 33 (0 : Int32)) 3).toInt = 0 := h3
                      have h_32 : ((va_up iv 33 (0 : Int32)) 33).toInt = 0 := tI_0
                      generalize va_up iv 33 (0 : Int32) = iv_30 at B h_31 h_32
                      refine lv_iconst (v := 0) E.1.1 E.1.2.1 dX5_gatherBooks_86 (by decide) ?_
                      refine lv_istore_n (lv' := [(1, .int (0 : Int32)), (0, .ref (ad 50))]) E.1.1 E.1.2.1 dX5_gatherBooks_87 rfl hl (by decide) rfl (fun ls hl => ?_)
                      refine lv_iload_n E.1.1 E.1.2.1 dX5_gatherBooks_88 rfl (lv_at hl 0 rfl) ?_
                      refine at_pc (n := 89) rfl ?_
                      refine lv_bipush (v := 8) E.1.1 E.1.2.1 dX5_gatherBooks_89 (by decide) ?_
                      refine c_ge (tgt := 138) E tI_0 tI_8 dX5_gatherBooks_91 (by decide) (fun c_33 => ?_) (fun c_33 => ?_)
                      · exfalso; omega
                      · skip
                        refine lv_aload_n E.1.1 E.1.2.1 dX5_gatherBooks_94 rfl (lv_at hl 1 rfl) ?_
                        refine row_get (v := .int (iv_30 33)) E B iX5 rfl 8 (by decide) mw_362 50 rfl rfl dX5_gatherBooks_95 ?_
                        refine lv_bipush (v := 6) E.1.1 E.1.2.1 dX5_gatherBooks_98 (by decide) ?_
                        refine c_ge (tgt := 138) E h_32 tI_6 dX5_gatherBooks_100 (by decide) (fun c_34 => ?_) (fun c_34 => ?_)
                        · exfalso; omega
                        · skip
                          refine lv_aload_n E.1.1 E.1.2.1 dX5_gatherBooks_103 rfl (lv_at hl 1 rfl) ?_
                          refine row_get (v := .ref (ad 51)) E B iX5 rfl 3 (by decide) mw_357 50 rfl rfl dX5_gatherBooks_104 ?_
                          refine lv_iload_n E.1.1 E.1.2.1 dX5_gatherBooks_107 rfl (lv_at hl 0 rfl) ?_
                          refine row_iald E B 51 rfl (vp_of tI_0 (by omega) (by omega)) dX5_gatherBooks_108 ?_
                          refine b_le (tgt := 132) E (a_24 _) dX5_gatherBooks_109 (by decide) (fun c_35 => ?_) (fun c_35 => ?_)
                          · skip
                            refine lv_iinc (v := 1) (lv' := [(1, .int (1 : Int32)), (0, .ref (ad 50))]) E.1.1 E.1.2.1 dX5_gatherBooks_132 hl (k := 0) rfl (by decide) (by decide) rfl (fun ls hl => ?_)
                            refine lv_goto (tgt := 88) E.1.1 E.1.2.1 dX5_gatherBooks_135 (by decide) ?_
                            refine lv_iload_n E.1.1 E.1.2.1 dX5_gatherBooks_88 rfl (lv_at hl 0 rfl) ?_
                            refine lv_bipush (v := 8) E.1.1 E.1.2.1 dX5_gatherBooks_89 (by decide) ?_
                            refine c_ge (tgt := 138) E tI_1 tI_8 dX5_gatherBooks_91 (by decide) (fun c_36 => ?_) (fun c_36 => ?_)
                            · exfalso; omega
                            · skip
                              refine lv_aload_n E.1.1 E.1.2.1 dX5_gatherBooks_94 rfl (lv_at hl 1 rfl) ?_
                              refine row_get (v := .int (iv_30 33)) E B iX5 rfl 8 (by decide) mw_362 50 rfl rfl dX5_gatherBooks_95 ?_
                              refine lv_bipush (v := 6) E.1.1 E.1.2.1 dX5_gatherBooks_98 (by decide) ?_
                              refine c_ge (tgt := 138) E h_32 tI_6 dX5_gatherBooks_100 (by decide) (fun c_37 => ?_) (fun c_37 => ?_)
                              · exfalso; omega
                              · skip
                                refine lv_aload_n E.1.1 E.1.2.1 dX5_gatherBooks_103 rfl (lv_at hl 1 rfl) ?_
                                refine row_get (v := .ref (ad 51)) E B iX5 rfl 3 (by decide) mw_357 50 rfl rfl dX5_gatherBooks_104 ?_
                                refine lv_iload_n E.1.1 E.1.2.1 dX5_gatherBooks_107 rfl (lv_at hl 0 rfl) ?_
                                refine row_iald E B 51 rfl (vp_of tI_1 (by omega) (by omega)) dX5_gatherBooks_108 ?_
                                refine b_le (tgt := 132) E (a_24 _) dX5_gatherBooks_109 (by decide) (fun c_38 => ?_) (fun c_38 => ?_)
                                · skip
                                  refine lv_iinc (v := 2) (lv' := [(1, .int (2 : Int32)), (0, .ref (ad 50))]) E.1.1 E.1.2.1 dX5_gatherBooks_132 hl (k := 0) rfl (by decide) (by decide) rfl (fun ls hl => ?_)
                                  refine lv_goto (tgt := 88) E.1.1 E.1.2.1 dX5_gatherBooks_135 (by decide) ?_
                                  refine lv_iload_n E.1.1 E.1.2.1 dX5_gatherBooks_88 rfl (lv_at hl 0 rfl) ?_
                                  refine lv_bipush (v := 8) E.1.1 E.1.2.1 dX5_gatherBooks_89 (by decide) ?_
                                  refine c_ge (tgt := 138) E tI_2 tI_8 dX5_gatherBooks_91 (by decide) (fun c_39 => ?_) (fun c_39 => ?_)
                                  · exfalso; omega
                                  · skip
                                    refine lv_aload_n E.1.1 E.1.2.1 dX5_gatherBooks_94 rfl (lv_at hl 1 rfl) ?_
                                    refine row_get (v := .int (iv_30 33)) E B iX5 rfl 8 (by decide) mw_362 50 rfl rfl dX5_gatherBooks_95 ?_
                                    refine lv_bipush (v := 6) E.1.1 E.1.2.1 dX5_gatherBooks_98 (by decide) ?_
                                    refine c_ge (tgt := 138) E h_32 tI_6 dX5_gatherBooks_100 (by decide) (fun c_40 => ?_) (fun c_40 => ?_)
                                    · exfalso; omega
                                    · skip
                                      refine lv_aload_n E.1.1 E.1.2.1 dX5_gatherBooks_103 rfl (lv_at hl 1 rfl) ?_
                                      refine row_get (v := .ref (ad 51)) E B iX5 rfl 3 (by decide) mw_357 50 rfl rfl dX5_gatherBooks_104 ?_
                                      refine lv_iload_n E.1.1 E.1.2.1 dX5_gatherBooks_107 rfl (lv_at hl 0 rfl) ?_
                                      refine row_iald E B 51 rfl (vp_of tI_2 (by omega) (by omega)) dX5_gatherBooks_108 ?_
                                      refine b_le (tgt := 132) E (a_24 _) dX5_gatherBooks_109 (by decide) (fun c_41 => ?_) (fun c_41 => ?_)
                                      · skip
                                        refine lv_iinc (v := 3) (lv' := [(1, .int (3 : Int32)), (0, .ref (ad 50))]) E.1.1 E.1.2.1 dX5_gatherBooks_132 hl (k := 0) rfl (by decide) (by decide) rfl (fun ls hl => ?_)
                                        refine lv_goto (tgt := 88) E.1.1 E.1.2.1 dX5_gatherBooks_135 (by decide) ?_
                                        refine lv_iload_n E.1.1 E.1.2.1 dX5_gatherBooks_88 rfl (lv_at hl 0 rfl) ?_
                                        refine lv_bipush (v := 8) E.1.1 E.1.2.1 dX5_gatherBooks_89 (by decide) ?_
                                        refine c_ge (tgt := 138) E tI_3 tI_8 dX5_gatherBooks_91 (by decide) (fun c_42 => ?_) (fun c_42 => ?_)
                                        · exfalso; omega
                                        · skip
                                          refine lv_aload_n E.1.1 E.1.2.1 dX5_gatherBooks_94 rfl (lv_at hl 1 rfl) ?_
                                          refine row_get (v := .int (iv_30 33)) E B iX5 rfl 8 (by decide) mw_362 50 rfl rfl dX5_gatherBooks_95 ?_
                                          refine lv_bipush (v := 6) E.1.1 E.1.2.1 dX5_gatherBooks_98 (by decide) ?_
                                          refine c_ge (tgt := 138) E h_32 tI_6 dX5_gatherBooks_100 (by decide) (fun c_43 => ?_) (fun c_43 => ?_)
                                          · exfalso; omega
                                          · skip
                                            refine lv_aload_n E.1.1 E.1.2.1 dX5_gatherBooks_103 rfl (lv_at hl 1 rfl) ?_
                                            refine row_get (v := .ref (ad 51)) E B iX5 rfl 3 (by decide) mw_357 50 rfl rfl dX5_gatherBooks_104 ?_
                                            refine lv_iload_n E.1.1 E.1.2.1 dX5_gatherBooks_107 rfl (lv_at hl 0 rfl) ?_
                                            refine row_iald E B 51 rfl (vp_of tI_3 (by omega) (by omega)) dX5_gatherBooks_108 ?_
                                            refine b_le (tgt := 132) E (a_24 _) dX5_gatherBooks_109 (by decide) (fun c_44 => ?_) (fun c_44 => ?_)
                                            · skip
                                              refine lv_iinc (v := 4) (lv' := [(1, .int (4 : Int32)), (0, .ref (ad 50))]) E.1.1 E.1.2.1 dX5_gatherBooks_132 hl (k := 0) rfl (by decide) (by decide) rfl (fun ls hl => ?_)
                                              refine lv_goto (tgt := 88) E.1.1 E.1.2.1 dX5_gatherBooks_135 (by decide) ?_
                                              refine lv_iload_n E.1.1 E.1.2.1 dX5_gatherBooks_88 rfl (lv_at hl 0 rfl) ?_
                                              refine lv_bipush (v := 8) E.1.1 E.1.2.1 dX5_gatherBooks_89 (by decide) ?_
                                              refine c_ge (tgt := 138) E tI_4 tI_8 dX5_gatherBooks_91 (by decide) (fun c_45 => ?_) (fun c_45 => ?_)
                                              · exfalso; omega
                                              · skip
                                                refine lv_aload_n E.1.1 E.1.2.1 dX5_gatherBooks_94 rfl (lv_at hl 1 rfl) ?_
                                                refine row_get (v := .int (iv_30 33)) E B iX5 rfl 8 (by decide) mw_362 50 rfl rfl dX5_gatherBooks_95 ?_
                                                refine lv_bipush (v := 6) E.1.1 E.1.2.1 dX5_gatherBooks_98 (by decide) ?_
                                                refine c_ge (tgt := 138) E h_32 tI_6 dX5_gatherBooks_100 (by decide) (fun c_46 => ?_) (fun c_46 => ?_)
                                                · exfalso; omega
                                                · skip
                                                  refine lv_aload_n E.1.1 E.1.2.1 dX5_gatherBooks_103 rfl (lv_at hl 1 rfl) ?_
                                                  refine row_get (v := .ref (ad 51)) E B iX5 rfl 3 (by decide) mw_357 50 rfl rfl dX5_gatherBooks_104 ?_
                                                  refine lv_iload_n E.1.1 E.1.2.1 dX5_gatherBooks_107 rfl (lv_at hl 0 rfl) ?_
                                                  refine row_iald E B 51 rfl (vp_of tI_4 (by omega) (by omega)) dX5_gatherBooks_108 ?_
                                                  refine b_le (tgt := 132) E (a_24 _) dX5_gatherBooks_109 (by decide) (fun c_47 => ?_) (fun c_47 => ?_)
                                                  · skip
                                                    refine lv_iinc (v := 5) (lv' := [(1, .int (5 : Int32)), (0, .ref (ad 50))]) E.1.1 E.1.2.1 dX5_gatherBooks_132 hl (k := 0) rfl (by decide) (by decide) rfl (fun ls hl => ?_)
                                                    refine lv_goto (tgt := 88) E.1.1 E.1.2.1 dX5_gatherBooks_135 (by decide) ?_
                                                    refine lv_iload_n E.1.1 E.1.2.1 dX5_gatherBooks_88 rfl (lv_at hl 0 rfl) ?_
                                                    refine lv_bipush (v := 8) E.1.1 E.1.2.1 dX5_gatherBooks_89 (by decide) ?_
                                                    refine c_ge (tgt := 138) E tI_5 tI_8 dX5_gatherBooks_91 (by decide) (fun c_48 => ?_) (fun c_48 => ?_)
                                                    · exfalso; omega
                                                    · skip
                                                      refine lv_aload_n E.1.1 E.1.2.1 dX5_gatherBooks_94 rfl (lv_at hl 1 rfl) ?_
                                                      refine row_get (v := .int (iv_30 33)) E B iX5 rfl 8 (by decide) mw_362 50 rfl rfl dX5_gatherBooks_95 ?_
                                                      refine lv_bipush (v := 6) E.1.1 E.1.2.1 dX5_gatherBooks_98 (by decide) ?_
                                                      refine c_ge (tgt := 138) E h_32 tI_6 dX5_gatherBooks_100 (by decide) (fun c_49 => ?_) (fun c_49 => ?_)
                                                      · exfalso; omega
                                                      · skip
                                                        refine lv_aload_n E.1.1 E.1.2.1 dX5_gatherBooks_103 rfl (lv_at hl 1 rfl) ?_
                                                        refine row_get (v := .ref (ad 51)) E B iX5 rfl 3 (by decide) mw_357 50 rfl rfl dX5_gatherBooks_104 ?_
                                                        refine lv_iload_n E.1.1 E.1.2.1 dX5_gatherBooks_107 rfl (lv_at hl 0 rfl) ?_
                                                        refine row_iald E B 51 rfl (vp_of tI_5 (by omega) (by omega)) dX5_gatherBooks_108 ?_
                                                        refine b_le (tgt := 132) E (a_24 _) dX5_gatherBooks_109 (by decide) (fun c_50 => ?_) (fun c_50 => ?_)
                                                        · skip
                                                          refine lv_iinc (v := 6) (lv' := [(1, .int (6 : Int32)), (0, .ref (ad 50))]) E.1.1 E.1.2.1 dX5_gatherBooks_132 hl (k := 0) rfl (by decide) (by decide) rfl (fun ls hl => ?_)
                                                          refine lv_goto (tgt := 88) E.1.1 E.1.2.1 dX5_gatherBooks_135 (by decide) ?_
                                                          refine lv_iload_n E.1.1 E.1.2.1 dX5_gatherBooks_88 rfl (lv_at hl 0 rfl) ?_
                                                          refine lv_bipush (v := 8) E.1.1 E.1.2.1 dX5_gatherBooks_89 (by decide) ?_
                                                          refine c_ge (tgt := 138) E tI_6 tI_8 dX5_gatherBooks_91 (by decide) (fun c_51 => ?_) (fun c_51 => ?_)
                                                          · exfalso; omega
                                                          · skip
                                                            refine lv_aload_n E.1.1 E.1.2.1 dX5_gatherBooks_94 rfl (lv_at hl 1 rfl) ?_
                                                            refine row_get (v := .int (iv_30 33)) E B iX5 rfl 8 (by decide) mw_362 50 rfl rfl dX5_gatherBooks_95 ?_
                                                            refine lv_bipush (v := 6) E.1.1 E.1.2.1 dX5_gatherBooks_98 (by decide) ?_
                                                            refine c_ge (tgt := 138) E h_32 tI_6 dX5_gatherBooks_100 (by decide) (fun c_52 => ?_) (fun c_52 => ?_)
                                                            · exfalso; omega
                                                            · skip
                                                              refine lv_aload_n E.1.1 E.1.2.1 dX5_gatherBooks_103 rfl (lv_at hl 1 rfl) ?_
                                                              refine row_get (v := .ref (ad 51)) E B iX5 rfl 3 (by decide) mw_357 50 rfl rfl dX5_gatherBooks_104 ?_
                                                              refine lv_iload_n E.1.1 E.1.2.1 dX5_gatherBooks_107 rfl (lv_at hl 0 rfl) ?_
                                                              refine row_iald E B 51 rfl (vp_of tI_6 (by omega) (by omega)) dX5_gatherBooks_108 ?_
                                                              refine b_le (tgt := 132) E (a_24 _) dX5_gatherBooks_109 (by decide) (fun c_53 => ?_) (fun c_53 => ?_)
                                                              · skip
                                                                refine lv_iinc (v := 7) (lv' := [(1, .int (7 : Int32)), (0, .ref (ad 50))]) E.1.1 E.1.2.1 dX5_gatherBooks_132 hl (k := 0) rfl (by decide) (by decide) rfl (fun ls hl => ?_)
                                                                refine lv_goto (tgt := 88) E.1.1 E.1.2.1 dX5_gatherBooks_135 (by decide) ?_
                                                                refine lv_iload_n E.1.1 E.1.2.1 dX5_gatherBooks_88 rfl (lv_at hl 0 rfl) ?_
                                                                refine lv_bipush (v := 8) E.1.1 E.1.2.1 dX5_gatherBooks_89 (by decide) ?_
                                                                refine c_ge (tgt := 138) E tI_7 tI_8 dX5_gatherBooks_91 (by decide) (fun c_54 => ?_) (fun c_54 => ?_)
                                                                · exfalso; omega
                                                                · skip
                                                                  refine lv_aload_n E.1.1 E.1.2.1 dX5_gatherBooks_94 rfl (lv_at hl 1 rfl) ?_
                                                                  refine row_get (v := .int (iv_30 33)) E B iX5 rfl 8 (by decide) mw_362 50 rfl rfl dX5_gatherBooks_95 ?_
                                                                  refine lv_bipush (v := 6) E.1.1 E.1.2.1 dX5_gatherBooks_98 (by decide) ?_
                                                                  refine c_ge (tgt := 138) E h_32 tI_6 dX5_gatherBooks_100 (by decide) (fun c_55 => ?_) (fun c_55 => ?_)
                                                                  · exfalso; omega
                                                                  · skip
                                                                    refine lv_aload_n E.1.1 E.1.2.1 dX5_gatherBooks_103 rfl (lv_at hl 1 rfl) ?_
                                                                    refine row_get (v := .ref (ad 51)) E B iX5 rfl 3 (by decide) mw_357 50 rfl rfl dX5_gatherBooks_104 ?_
                                                                    refine lv_iload_n E.1.1 E.1.2.1 dX5_gatherBooks_107 rfl (lv_at hl 0 rfl) ?_
                                                                    refine row_iald E B 51 rfl (vp_of tI_7 (by omega) (by omega)) dX5_gatherBooks_108 ?_
                                                                    refine b_le (tgt := 132) E (a_24 _) dX5_gatherBooks_109 (by decide) (fun c_56 => ?_) (fun c_56 => ?_)
                                                                    · skip
                                                                      refine lv_iinc (v := 8) (lv' := [(1, .int (8 : Int32)), (0, .ref (ad 50))]) E.1.1 E.1.2.1 dX5_gatherBooks_132 hl (k := 0) rfl (by decide) (by decide) rfl (fun ls hl => ?_)
                                                                      refine lv_goto (tgt := 88) E.1.1 E.1.2.1 dX5_gatherBooks_135 (by decide) ?_
                                                                      refine lv_iload_n E.1.1 E.1.2.1 dX5_gatherBooks_88 rfl (lv_at hl 0 rfl) ?_
                                                                      refine lv_bipush (v := 8) E.1.1 E.1.2.1 dX5_gatherBooks_89 (by decide) ?_
                                                                      refine c_ge (tgt := 138) E tI_8 tI_8 dX5_gatherBooks_91 (by decide) (fun c_57 => ?_) (fun c_57 => ?_)
                                                                      · skip
                                                                        refine lv_iconst (v := 0) E.1.1 E.1.2.1 dX5_gatherBooks_138 (by decide) ?_
                                                                        refine lv_istore_n (lv' := [(1, .int (0 : Int32)), (0, .ref (ad 50))]) E.1.1 E.1.2.1 dX5_gatherBooks_139 rfl hl (by decide) rfl (fun ls hl => ?_)
                                                                        refine lv_iload_n E.1.1 E.1.2.1 dX5_gatherBooks_140 rfl (lv_at hl 0 rfl) ?_
                                                                        refine lv_aload_n E.1.1 E.1.2.1 dX5_gatherBooks_141 rfl (lv_at hl 1 rfl) ?_
                                                                        refine row_get (v := .ref (ad 53)) E B iX5 rfl 5 (by decide) mw_359 50 rfl rfl dX5_gatherBooks_142 ?_
                                                                        refine va_alen (v := 6) E.1.1 E.1.2.1 E.2.1.1 B.1 53 0 rfl rfl rfl dX5_gatherBooks_145 ?_
                                                                        refine at_pc (n := 146) rfl ?_
                                                                        refine c_ge (tgt := 162) E tI_0 tI_6 dX5_gatherBooks_146 (by decide) (fun c_58 => ?_) (fun c_58 => ?_)
                                                                        · exfalso; omega
                                                                        · skip
                                                                          refine lv_aload_n E.1.1 E.1.2.1 dX5_gatherBooks_149 rfl (lv_at hl 1 rfl) ?_
                                                                          refine row_get (v := .ref (ad 53)) E B iX5 rfl 5 (by decide) mw_359 50 rfl rfl dX5_gatherBooks_150 ?_
                                                                          refine lv_iload_n E.1.1 E.1.2.1 dX5_gatherBooks_153 rfl (lv_at hl 0 rfl) ?_
                                                                          refine lv_iconst (v := 0) E.1.1 E.1.2.1 dX5_gatherBooks_154 (by decide) ?_
                                                                          refine row_iast E B 53 rfl (vp_of tI_0 (by omega) (by omega)) dX5_gatherBooks_155 (fun H locs B => ?_)
                                                                          have B := Hp.eq (sx_ia_53 ct ad iv_30 ia_23 la pt ra R (upd (ia_23 53) (0 : Int32).toNatClampNeg (0 : Int32))) B
                                                                          have a_60 : ∀ j, ((va_up ia_23 53 (upd (ia_23 53) (0 : Int32).toNatClampNeg (0 : Int32))) 51 j).toInt = 0 := a_24
                                                                          generalize va_up ia_23 53 (upd (ia_23 53) (0 : Int32).toNatClampNeg (0 : Int32)) = ia_59 at B a_60
                                                                          refine lv_iinc (v := 1) (lv' := [(1, .int (1 : Int32)), (0, .ref (ad 50))]) E.1.1 E.1.2.1 dX5_gatherBooks_156 hl (k := 0) rfl (by decide) (by decide) rfl (fun ls hl => ?_)
                                                                          refine at_pc (n := 159) rfl ?_
                                                                          refine lv_goto (tgt := 140) E.1.1 E.1.2.1 dX5_gatherBooks_159 (by decide) ?_
                                                                          refine lv_iload_n E.1.1 E.1.2.1 dX5_gatherBooks_140 rfl (lv_at hl 0 rfl) ?_
                                                                          refine lv_aload_n E.1.1 E.1.2.1 dX5_gatherBooks_141 rfl (lv_at hl 1 rfl) ?_
                                                                          refine row_get (v := .ref (ad 53)) E B iX5 rfl 5 (by decide) mw_359 50 rfl rfl dX5_gatherBooks_142 ?_
                                                                          refine va_alen (v := 6) E.1.1 E.1.2.1 E.2.1.1 B.1 53 0 rfl rfl rfl dX5_gatherBooks_145 ?_
                                                                          refine c_ge (tgt := 162) E tI_1 tI_6 dX5_gatherBooks_146 (by decide) (fun c_61 => ?_) (fun c_61 => ?_)
                                                                          · exfalso; omega
                                                                          · skip
                                                                            refine lv_aload_n E.1.1 E.1.2.1 dX5_gatherBooks_149 rfl (lv_at hl 1 rfl) ?_
                                                                            refine row_get (v := .ref (ad 53)) E B iX5 rfl 5 (by decide) mw_359 50 rfl rfl dX5_gatherBooks_150 ?_
                                                                            refine lv_iload_n E.1.1 E.1.2.1 dX5_gatherBooks_153 rfl (lv_at hl 0 rfl) ?_
                                                                            refine lv_iconst (v := 0) E.1.1 E.1.2.1 dX5_gatherBooks_154 (by decide) ?_
                                                                            refine row_iast E B 53 rfl (vp_of tI_1 (by omega) (by omega)) dX5_gatherBooks_155 (fun H locs B => ?_)
                                                                            have B := Hp.eq (sx_ia_53 ct ad iv_30 ia_59 la pt ra R (upd (ia_59 53) (1 : Int32).toNatClampNeg (0 : Int32))) B
                                                                            have a_63 : ∀ j, ((va_up ia_59 53 (upd (ia_59 53) (1 : Int32).toNatClampNeg (0 : Int32))) 51 j).toInt = 0 := a_60
                                                                            generalize va_up ia_59 53 (upd (ia_59 53) (1 : Int32).toNatClampNeg (0 : Int32)) = ia_62 at B a_63
                                                                            refine lv_iinc (v := 2) (lv' := [(1, .int (2 : Int32)), (0, .ref (ad 50))]) E.1.1 E.1.2.1 dX5_gatherBooks_156 hl (k := 0) rfl (by decide) (by decide) rfl (fun ls hl => ?_)
                                                                            refine at_pc (n := 159) rfl ?_
                                                                            refine lv_goto (tgt := 140) E.1.1 E.1.2.1 dX5_gatherBooks_159 (by decide) ?_
                                                                            refine lv_iload_n E.1.1 E.1.2.1 dX5_gatherBooks_140 rfl (lv_at hl 0 rfl) ?_
                                                                            refine lv_aload_n E.1.1 E.1.2.1 dX5_gatherBooks_141 rfl (lv_at hl 1 rfl) ?_
                                                                            refine row_get (v := .ref (ad 53)) E B iX5 rfl 5 (by decide) mw_359 50 rfl rfl dX5_gatherBooks_142 ?_
                                                                            refine va_alen (v := 6) E.1.1 E.1.2.1 E.2.1.1 B.1 53 0 rfl rfl rfl dX5_gatherBooks_145 ?_
                                                                            refine c_ge (tgt := 162) E tI_2 tI_6 dX5_gatherBooks_146 (by decide) (fun c_64 => ?_) (fun c_64 => ?_)
                                                                            · exfalso; omega
                                                                            · skip
                                                                              refine lv_aload_n E.1.1 E.1.2.1 dX5_gatherBooks_149 rfl (lv_at hl 1 rfl) ?_
                                                                              refine row_get (v := .ref (ad 53)) E B iX5 rfl 5 (by decide) mw_359 50 rfl rfl dX5_gatherBooks_150 ?_
                                                                              refine lv_iload_n E.1.1 E.1.2.1 dX5_gatherBooks_153 rfl (lv_at hl 0 rfl) ?_
                                                                              refine lv_iconst (v := 0) E.1.1 E.1.2.1 dX5_gatherBooks_154 (by decide) ?_
                                                                              refine row_iast E B 53 rfl (vp_of tI_2 (by omega) (by omega)) dX5_gatherBooks_155 (fun H locs B => ?_)
                                                                              have B := Hp.eq (sx_ia_53 ct ad iv_30 ia_62 la pt ra R (upd (ia_62 53) (2 : Int32).toNatClampNeg (0 : Int32))) B
                                                                              have a_66 : ∀ j, ((va_up ia_62 53 (upd (ia_62 53) (2 : Int32).toNatClampNeg (0 : Int32))) 51 j).toInt = 0 := a_63
                                                                              generalize va_up ia_62 53 (upd (ia_62 53) (2 : Int32).toNatClampNeg (0 : Int32)) = ia_65 at B a_66
                                                                              refine lv_iinc (v := 3) (lv' := [(1, .int (3 : Int32)), (0, .ref (ad 50))]) E.1.1 E.1.2.1 dX5_gatherBooks_156 hl (k := 0) rfl (by decide) (by decide) rfl (fun ls hl => ?_)
                                                                              refine at_pc (n := 159) rfl ?_
                                                                              refine lv_goto (tgt := 140) E.1.1 E.1.2.1 dX5_gatherBooks_159 (by decide) ?_
                                                                              refine lv_iload_n E.1.1 E.1.2.1 dX5_gatherBooks_140 rfl (lv_at hl 0 rfl) ?_
                                                                              refine lv_aload_n E.1.1 E.1.2.1 dX5_gatherBooks_141 rfl (lv_at hl 1 rfl) ?_
                                                                              refine row_get (v := .ref (ad 53)) E B iX5 rfl 5 (by decide) mw_359 50 rfl rfl dX5_gatherBooks_142 ?_
                                                                              refine va_alen (v := 6) E.1.1 E.1.2.1 E.2.1.1 B.1 53 0 rfl rfl rfl dX5_gatherBooks_145 ?_
                                                                              refine c_ge (tgt := 162) E tI_3 tI_6 dX5_gatherBooks_146 (by decide) (fun c_67 => ?_) (fun c_67 => ?_)
                                                                              · exfalso; omega
                                                                              · skip
                                                                                refine lv_aload_n E.1.1 E.1.2.1 dX5_gatherBooks_149 rfl (lv_at hl 1 rfl) ?_
                                                                                refine row_get (v := .ref (ad 53)) E B iX5 rfl 5 (by decide) mw_359 50 rfl rfl dX5_gatherBooks_150 ?_
                                                                                refine lv_iload_n E.1.1 E.1.2.1 dX5_gatherBooks_153 rfl (lv_at hl 0 rfl) ?_
                                                                                refine lv_iconst (v := 0) E.1.1 E.1.2.1 dX5_gatherBooks_154 (by decide) ?_
                                                                                refine row_iast E B 53 rfl (vp_of tI_3 (by omega) (by omega)) dX5_gatherBooks_155 (fun H locs B => ?_)
                                                                                have B := Hp.eq (sx_ia_53 ct ad iv_30 ia_65 la pt ra R (upd (ia_65 53) (3 : Int32).toNatClampNeg (0 : Int32))) B
                                                                                have a_69 : ∀ j, ((va_up ia_65 53 (upd (ia_65 53) (3 : Int32).toNatClampNeg (0 : Int32))) 51 j).toInt = 0 := a_66
                                                                                generalize va_up ia_65 53 (upd (ia_65 53) (3 : Int32).toNatClampNeg (0 : Int32)) = ia_68 at B a_69
                                                                                refine lv_iinc (v := 4) (lv' := [(1, .int (4 : Int32)), (0, .ref (ad 50))]) E.1.1 E.1.2.1 dX5_gatherBooks_156 hl (k := 0) rfl (by decide) (by decide) rfl (fun ls hl => ?_)
                                                                                refine at_pc (n := 159) rfl ?_
                                                                                refine lv_goto (tgt := 140) E.1.1 E.1.2.1 dX5_gatherBooks_159 (by decide) ?_
                                                                                refine lv_iload_n E.1.1 E.1.2.1 dX5_gatherBooks_140 rfl (lv_at hl 0 rfl) ?_
                                                                                refine lv_aload_n E.1.1 E.1.2.1 dX5_gatherBooks_141 rfl (lv_at hl 1 rfl) ?_
                                                                                refine row_get (v := .ref (ad 53)) E B iX5 rfl 5 (by decide) mw_359 50 rfl rfl dX5_gatherBooks_142 ?_
                                                                                refine va_alen (v := 6) E.1.1 E.1.2.1 E.2.1.1 B.1 53 0 rfl rfl rfl dX5_gatherBooks_145 ?_
                                                                                refine c_ge (tgt := 162) E tI_4 tI_6 dX5_gatherBooks_146 (by decide) (fun c_70 => ?_) (fun c_70 => ?_)
                                                                                · exfalso; omega
                                                                                · skip
                                                                                  refine lv_aload_n E.1.1 E.1.2.1 dX5_gatherBooks_149 rfl (lv_at hl 1 rfl) ?_
                                                                                  refine row_get (v := .ref (ad 53)) E B iX5 rfl 5 (by decide) mw_359 50 rfl rfl dX5_gatherBooks_150 ?_
                                                                                  refine lv_iload_n E.1.1 E.1.2.1 dX5_gatherBooks_153 rfl (lv_at hl 0 rfl) ?_
                                                                                  refine lv_iconst (v := 0) E.1.1 E.1.2.1 dX5_gatherBooks_154 (by decide) ?_
                                                                                  refine row_iast E B 53 rfl (vp_of tI_4 (by omega) (by omega)) dX5_gatherBooks_155 (fun H locs B => ?_)
                                                                                  have B := Hp.eq (sx_ia_53 ct ad iv_30 ia_68 la pt ra R (upd (ia_68 53) (4 : Int32).toNatClampNeg (0 : Int32))) B
                                                                                  have a_72 : ∀ j, ((va_up ia_68 53 (upd (ia_68 53) (4 : Int32).toNatClampNeg (0 : Int32))) 51 j).toInt = 0 := a_69
                                                                                  generalize va_up ia_68 53 (upd (ia_68 53) (4 : Int32).toNatClampNeg (0 : Int32)) = ia_71 at B a_72
                                                                                  refine lv_iinc (v := 5) (lv' := [(1, .int (5 : Int32)), (0, .ref (ad 50))]) E.1.1 E.1.2.1 dX5_gatherBooks_156 hl (k := 0) rfl (by decide) (by decide) rfl (fun ls hl => ?_)
                                                                                  refine at_pc (n := 159) rfl ?_
                                                                                  refine lv_goto (tgt := 140) E.1.1 E.1.2.1 dX5_gatherBooks_159 (by decide) ?_
                                                                                  refine lv_iload_n E.1.1 E.1.2.1 dX5_gatherBooks_140 rfl (lv_at hl 0 rfl) ?_
                                                                                  refine lv_aload_n E.1.1 E.1.2.1 dX5_gatherBooks_141 rfl (lv_at hl 1 rfl) ?_
                                                                                  refine row_get (v := .ref (ad 53)) E B iX5 rfl 5 (by decide) mw_359 50 rfl rfl dX5_gatherBooks_142 ?_
                                                                                  refine va_alen (v := 6) E.1.1 E.1.2.1 E.2.1.1 B.1 53 0 rfl rfl rfl dX5_gatherBooks_145 ?_
                                                                                  refine c_ge (tgt := 162) E tI_5 tI_6 dX5_gatherBooks_146 (by decide) (fun c_73 => ?_) (fun c_73 => ?_)
                                                                                  · exfalso; omega
                                                                                  · skip
                                                                                    refine lv_aload_n E.1.1 E.1.2.1 dX5_gatherBooks_149 rfl (lv_at hl 1 rfl) ?_
                                                                                    refine row_get (v := .ref (ad 53)) E B iX5 rfl 5 (by decide) mw_359 50 rfl rfl dX5_gatherBooks_150 ?_
                                                                                    refine lv_iload_n E.1.1 E.1.2.1 dX5_gatherBooks_153 rfl (lv_at hl 0 rfl) ?_
                                                                                    refine lv_iconst (v := 0) E.1.1 E.1.2.1 dX5_gatherBooks_154 (by decide) ?_
                                                                                    refine row_iast E B 53 rfl (vp_of tI_5 (by omega) (by omega)) dX5_gatherBooks_155 (fun H locs B => ?_)
                                                                                    have B := Hp.eq (sx_ia_53 ct ad iv_30 ia_71 la pt ra R (upd (ia_71 53) (5 : Int32).toNatClampNeg (0 : Int32))) B
                                                                                    have a_75 : ∀ j, ((va_up ia_71 53 (upd (ia_71 53) (5 : Int32).toNatClampNeg (0 : Int32))) 51 j).toInt = 0 := a_72
                                                                                    generalize va_up ia_71 53 (upd (ia_71 53) (5 : Int32).toNatClampNeg (0 : Int32)) = ia_74 at B a_75
                                                                                    refine lv_iinc (v := 6) (lv' := [(1, .int (6 : Int32)), (0, .ref (ad 50))]) E.1.1 E.1.2.1 dX5_gatherBooks_156 hl (k := 0) rfl (by decide) (by decide) rfl (fun ls hl => ?_)
                                                                                    refine at_pc (n := 159) rfl ?_
                                                                                    refine lv_goto (tgt := 140) E.1.1 E.1.2.1 dX5_gatherBooks_159 (by decide) ?_
                                                                                    refine lv_iload_n E.1.1 E.1.2.1 dX5_gatherBooks_140 rfl (lv_at hl 0 rfl) ?_
                                                                                    refine lv_aload_n E.1.1 E.1.2.1 dX5_gatherBooks_141 rfl (lv_at hl 1 rfl) ?_
                                                                                    refine row_get (v := .ref (ad 53)) E B iX5 rfl 5 (by decide) mw_359 50 rfl rfl dX5_gatherBooks_142 ?_
                                                                                    refine va_alen (v := 6) E.1.1 E.1.2.1 E.2.1.1 B.1 53 0 rfl rfl rfl dX5_gatherBooks_145 ?_
                                                                                    refine c_ge (tgt := 162) E tI_6 tI_6 dX5_gatherBooks_146 (by decide) (fun c_76 => ?_) (fun c_76 => ?_)
                                                                                    · skip
                                                                                      exact ret_V (u := (iv_30, ia_74)) E hr hlk B (by have := h_32; omega) dX5_gatherBooks_162
                                                                                    · exfalso; omega
                                                                      · exfalso; omega
                                                                    · exfalso; omega
                                                              · exfalso; omega
                                                        · exfalso; omega
                                                  · exfalso; omega
                                            · exfalso; omega
                                      · exfalso; omega
                                · exfalso; omega
                          · exfalso; omega
                    · exfalso; omega
                  · exfalso; omega
set_option maxHeartbeats 4000000 in
set_option maxRecDepth 100000 in
theorem x_5_daysOfCentre (l : Launch) (D : va_G) (ct : Nat → ClassId) (tN : Nat) (ad : Nat → Nat) (iv : Nat → Int32) (ia : Nat → Nat → Int32) (la : Nat → Nat → Int64) (pt : Nat → Option Nat) (ra : Nat → Nat → Option Nat) (R : va_W)  (h33 : (iv 33).toInt = 0) : MI l D (TY ct) tN yX5_daysOfCentre cX5_daysOfCentre 3 (some .int) ({ frames := 0, cells := 0, slots := 0, locals := 0 } : Room) [.ref (ad 50)] (XW ct ad iv ia la pt ra R) (fun (v : Int32) (u : Unit) => v.toInt = 0) (fun _ => XW ct ad iv ia la pt ra R) 0 0 := by
  intro sz
  refine Met.ofE (Qc := fun A => va_Qi (fun (v : Int32) (u : Unit) => v.toInt = 0) (BW D A (fun _ => XW ct ad iv ia la pt ra R)) A) (by decide) (Nat.le_of_ble_eq_true rfl) ?_
  intro p e s m args below meth c A ls hsz E hr hlk hnm B hl
  have hl : lv_has ls 3 [(0, .ref (ad 50))] := hl
  refine lv_iconst (v := 0) E.1.1 E.1.2.1 dX5_daysOfCentre_0 (by decide) ?_
  refine lv_istore_n (lv' := [(1, .int (0 : Int32)), (0, .ref (ad 50))]) E.1.1 E.1.2.1 dX5_daysOfCentre_1 rfl hl (by decide) rfl (fun ls hl => ?_)
  refine lv_iconst (v := 0) E.1.1 E.1.2.1 dX5_daysOfCentre_2 (by decide) ?_
  refine lv_istore_n (lv' := [(2, .int (0 : Int32)), (1, .int (0 : Int32)), (0, .ref (ad 50))]) E.1.1 E.1.2.1 dX5_daysOfCentre_3 rfl hl (by decide) rfl (fun ls hl => ?_)
  refine lv_iload_n E.1.1 E.1.2.1 dX5_daysOfCentre_4 rfl (lv_at hl 0 rfl) ?_
  refine lv_aload_n E.1.1 E.1.2.1 dX5_daysOfCentre_5 rfl (lv_at hl 2 rfl) ?_
  refine at_pc (n := 6) rfl ?_
  refine row_get (v := .int (iv 33)) E B iX5 rfl 8 (by decide) mw_362 50 rfl rfl dX5_daysOfCentre_6 ?_
  refine c_ge (tgt := 32) E tI_0 h33 dX5_daysOfCentre_9 (by decide) (fun c_1 => ?_) (fun c_1 => ?_)
  · skip
    refine lv_iload_n E.1.1 E.1.2.1 dX5_daysOfCentre_32 rfl (lv_at hl 1 rfl) ?_
    refine b_ne (tgt := 38) E tI_0 dX5_daysOfCentre_33 (by decide) (fun c_2 => ?_) (fun c_2 => ?_)
    · exfalso; omega
    · skip
      refine lv_iconst (v := 0) E.1.1 E.1.2.1 dX5_daysOfCentre_36 (by decide) ?_
      have r_3 : (0 : Int32).toInt = 0 := tI_0
      exact ret_I (u := ()) E hr hlk rfl B (by omega) dX5_daysOfCentre_37
  · exfalso; omega
set_option maxHeartbeats 4000000 in
set_option maxRecDepth 100000 in
theorem x_5_give (l : Launch) (D : va_G) (ct : Nat → ClassId) (tN : Nat) (ad : Nat → Nat) (iv : Nat → Int32) (ia : Nat → Nat → Int32) (la : Nat → Nat → Int64) (pt : Nat → Option Nat) (ra : Nat → Nat → Option Nat) (R : va_W) (p0 : Int32) (p1 : Int32) (h33 : (iv 33).toInt = 0) (h34 : (iv 34).toInt = 2147483647) (q0 : p0.toInt = 0) (q1 : p1.toInt = 0) : MV l D (TY ct) tN yX5_give cX5_give 4 ({ frames := 0, cells := 0, slots := 0, locals := 0 } : Room) [.ref (ad 50), .int p0, .int p1] (XW ct ad iv ia la pt ra R) (fun (u : Nat → Int32) => (u 33).toInt = 0 ∧ (u 34).toInt = 0) (fun u => XW ct ad u ia la pt ra R) 0 0 := by
  intro sz
  refine Met.ofE (Qc := fun A => va_Qv (fun (u : Nat → Int32) => (u 33).toInt = 0 ∧ (u 34).toInt = 0) (BW D A (fun u => XW ct ad u ia la pt ra R)) A) (by decide) (Nat.le_of_ble_eq_true rfl) ?_
  intro p e s m args below meth c A ls hsz E hr hlk hnm B hl
  have hl : lv_has ls 4 [(0, .ref (ad 50)), (1, .int p0), (2, .int p1)] := hl
  refine lv_iload_n E.1.1 E.1.2.1 dX5_give_0 rfl (lv_at hl 2 rfl) ?_
  refine lv_aload_n E.1.1 E.1.2.1 dX5_give_1 rfl (lv_at hl 0 rfl) ?_
  refine row_get (v := .int (iv 34)) E B iX5 rfl 9 (by decide) mw_363 50 rfl rfl dX5_give_2 ?_
  refine c_lt (tgt := 9) E q1 h34 dX5_give_5 (by decide) (fun c_1 => ?_) (fun c_1 => ?_)
  · skip
    refine lv_iload_n E.1.1 E.1.2.1 dX5_give_9 rfl (lv_at hl 1 rfl) ?_
    refine lv_aload_n E.1.1 E.1.2.1 dX5_give_10 rfl (lv_at hl 0 rfl) ?_
    refine row_get (v := .int (iv 33)) E B iX5 rfl 8 (by decide) mw_362 50 rfl rfl dX5_give_11 ?_
    refine c_lt (tgt := 51) E q0 h33 dX5_give_14 (by decide) (fun c_2 => ?_) (fun c_2 => ?_)
    · exfalso; omega
    · skip
      refine lv_aload_n E.1.1 E.1.2.1 dX5_give_17 rfl (lv_at hl 0 rfl) ?_
      refine lv_iload_n E.1.1 E.1.2.1 dX5_give_18 rfl (lv_at hl 2 rfl) ?_
      refine row_put E B iX5 rfl tyX5 tyX5_ok nmX5 9 (by decide) mw_363 rfl 50 rfl rfl rfl (Nat.le_of_ble_eq_true rfl) dX5_give_19 (fun H locs B => ?_)
      have B := Hp.eq (sx_iv_34 ct ad iv ia la pt ra R p1) B
      have h_4 : ((va_up iv 34 p1) 33).toInt = 0 := h33
      have h_5 : ((va_up iv 34 p1) 34).toInt = 0 := q1
      generalize va_up iv 34 p1 = iv_3 at B h_4 h_5
      refine lv_iconst (v := 0) E.1.1 E.1.2.1 dX5_give_22 (by decide) ?_
      refine lv_istore_n (lv' := [(3, .int (0 : Int32)), (0, .ref (ad 50)), (1, .int p0), (2, .int p1)]) E.1.1 E.1.2.1 dX5_give_23 rfl hl (by decide) rfl (fun ls hl => ?_)
      refine lv_iload_n E.1.1 E.1.2.1 dX5_give_24 rfl (lv_at hl 0 rfl) ?_
      refine at_pc (n := 25) rfl ?_
      refine lv_aload_n E.1.1 E.1.2.1 dX5_give_25 rfl (lv_at hl 1 rfl) ?_
      refine row_get (v := .int (iv_3 33)) E B iX5 rfl 8 (by decide) mw_362 50 rfl rfl dX5_give_26 ?_
      refine c_ge (tgt := 50) E tI_0 h_4 dX5_give_29 (by decide) (fun c_6 => ?_) (fun c_6 => ?_)
      · skip
        exact ret_V (u := iv_3) E hr hlk B ⟨(by have := h_4; omega), (by have := h_5; omega)⟩ dX5_give_50
      · exfalso; omega
  · exfalso; omega
set_option maxHeartbeats 4000000 in
set_option maxRecDepth 100000 in
theorem x_5_answer (l : Launch) (D : va_G) (ct : Nat → ClassId) (tN : Nat) (ad : Nat → Nat) (iv : Nat → Int32) (ia : Nat → Nat → Int32) (la : Nat → Nat → Int64) (pt : Nat → Option Nat) (ra : Nat → Nat → Option Nat) (R : va_W) (p0 : Int32) (h3 : (iv 3).toInt = 0) (g51 : ∀ j, (ia 51 j).toInt = 0) : MI l D (TY ct) tN yX5_answer cX5_answer 3 (some .int) ({ frames := 2, cells := 0, slots := 0, locals := 42 } : Room) [.ref (ad 50), .int p0] (XW ct ad iv ia la pt ra R) (fun (v : Int32) (u : va_W) => (p0.toInt = -1 ∧ v.toInt = 0) ∨ (¬ p0.toInt = -1 ∧ v.toInt = -1)) (fun u => u) 0 0 := by
  intro sz
  refine Met.ofE (Qc := fun A => va_Qi (fun (v : Int32) (u : va_W) => (p0.toInt = -1 ∧ v.toInt = 0) ∨ (¬ p0.toInt = -1 ∧ v.toInt = -1)) (BW D A (fun u => u)) A) (by decide) (Nat.le_of_ble_eq_true rfl) ?_
  intro p e s m args below meth c A ls hsz E hr hlk hnm B hl
  have hl : lv_has ls 3 [(0, .ref (ad 50)), (1, .int p0)] := hl
  refine lv_aload_n E.1.1 E.1.2.1 dX5_answer_0 rfl (lv_at hl 0 rfl) ?_
  refine call_VV (kn := 0) E B (x_5_gatherBooks l D ct tN ad iv ia la pt ra R   h3 g51) (good_V mw_1366 mw_1368 ms_66 mw_11 mw_1369) 50 rfl rfl ⟨rfl, by decide +kernel⟩ rfl rfl rfl ⟨by decide, by decide⟩ rfl hl (Nat.le_of_ble_eq_true rfl) dX5_answer_1 ⟨Nat.le_of_ble_eq_true rfl, Nat.le_of_ble_eq_true rfl⟩ (fun u_2 H locs w_3 B => ?_)
  obtain ⟨iv_4, ia_5⟩ := u_2
  have h_6 := w_3
  have h_6 : (iv_4 33).toInt = 0 := h_6
  have B : Hp D A s.heap (XW ct ad iv_4 ia_5 la pt ra R) H locs := B
  refine at_n (n := 4) (k1 := 0) (k2 := 0) rfl rfl rfl ?_
  refine lv_aload_n E.1.1 E.1.2.1 dX5_answer_4 rfl (lv_at hl 0 rfl) ?_
  refine lv_ldc (v := 2147483647) E.1.1 E.1.2.1 E.1.2.2.2.1 (E.1.2.2.2.2 _ mw_1373) dX5_answer_5 ?_
  refine row_put E B iX5 rfl tyX5 tyX5_ok nmX5 9 (by decide) mw_363 rfl 50 rfl rfl rfl (Nat.le_of_ble_eq_true rfl) dX5_answer_7 (fun H locs B => ?_)
  have B := Hp.eq (sx_iv_34 ct ad iv_4 ia_5 la pt ra R ((2147483647 : Int32))) B
  have h_8 : ((va_up iv_4 34 (2147483647 : Int32)) 33).toInt = 0 := h_6
  have h_9 : ((va_up iv_4 34 (2147483647 : Int32)) 34).toInt = 2147483647 := tI_2147483647
  generalize va_up iv_4 34 (2147483647 : Int32) = iv_7 at B h_8 h_9
  refine lv_aload_n E.1.1 E.1.2.1 dX5_answer_10 rfl (lv_at hl 0 rfl) ?_
  refine call_VI (kn := 0) E B (x_5_daysOfCentre l D ct tN ad iv_7 ia_5 la pt ra R   h_8) (good_V mw_1374 mw_1376 ms_67 mw_11 mw_1377) 50 rfl rfl ⟨rfl, by decide +kernel⟩ rfl rfl rfl ⟨by decide, by decide⟩ rfl hl (Nat.le_of_ble_eq_true rfl) dX5_answer_11 ⟨Nat.le_of_ble_eq_true rfl, Nat.le_of_ble_eq_true rfl⟩ (fun v_10 u_11 H locs w_12 B => ?_)
  have w_12 : v_10.toInt = 0 := w_12
  have B : Hp D A s.heap (XW ct ad iv_7 ia_5 la pt ra R) H locs := B
  refine at_n (n := 14) (k1 := 0) (k2 := 0) rfl rfl rfl ?_
  refine lv_istore_n (lv' := [(2, .int v_10), (0, .ref (ad 50)), (1, .int p0)]) E.1.1 E.1.2.1 dX5_answer_14 rfl hl (by decide) rfl (fun ls hl => ?_)
  refine lv_iload_n E.1.1 E.1.2.1 dX5_answer_15 rfl (lv_at hl 0 rfl) ?_
  refine lv_iconst (v := -1) E.1.1 E.1.2.1 dX5_answer_16 (by decide) ?_
  refine c_eq (tgt := 26) E w_12 tI_m1 dX5_answer_17 (by decide) (fun c_13 => ?_) (fun c_13 => ?_)
  · exfalso; omega
  · skip
    refine lv_aload_n E.1.1 E.1.2.1 dX5_answer_20 rfl (lv_at hl 1 rfl) ?_
    refine lv_iconst (v := 0) E.1.1 E.1.2.1 dX5_answer_21 (by decide) ?_
    refine lv_iload_n E.1.1 E.1.2.1 dX5_answer_22 rfl (lv_at hl 0 rfl) ?_
    refine call_VV (kn := 2) E B (x_5_give l D ct tN ad iv_7 ia_5 la pt ra R  ((0 : Int32)) v_10 h_8 h_9 (by have := tI_0; omega) (by have := w_12; omega)) (good_V mw_1385 mw_1387 ms_68 mw_11 mw_1388) 50 rfl rfl ⟨rfl, by decide +kernel⟩ rfl rfl rfl ⟨by decide, by decide⟩ rfl hl (Nat.le_of_ble_eq_true rfl) dX5_answer_23 ⟨Nat.le_of_ble_eq_true rfl, Nat.le_of_ble_eq_true rfl⟩ (fun u_15 H locs w_16 B => ?_)
    obtain ⟨h_17, h_18⟩ := w_16
    have h_17 : (u_15 33).toInt = 0 := h_17
    have h_18 : (u_15 34).toInt = 0 := h_18
    have B : Hp D A s.heap (XW ct ad u_15 ia_5 la pt ra R) H locs := B
    refine at_n (n := 26) (k1 := 0) (k2 := 0) rfl rfl rfl ?_
    refine lv_aload_n E.1.1 E.1.2.1 dX5_answer_26 rfl (lv_at hl 1 rfl) ?_
    refine row_get (v := .int (u_15 34)) E B iX5 rfl 9 (by decide) mw_363 50 rfl rfl dX5_answer_27 ?_
    refine lv_ldc (v := 2147483647) E.1.1 E.1.2.1 E.1.2.2.2.1 (E.1.2.2.2.2 _ mw_1373) dX5_answer_30 ?_
    refine c_ne (tgt := 37) E h_18 tI_2147483647 dX5_answer_32 (by decide) (fun c_19 => ?_) (fun c_19 => ?_)
    · skip
      refine lv_iload_n E.1.1 E.1.2.1 dX5_answer_37 rfl (lv_at hl 2 rfl) ?_
      refine lv_iconst (v := -1) E.1.1 E.1.2.1 dX5_answer_38 (by decide) ?_
      refine c_ne (tgt := 47) E rfl tI_m1 dX5_answer_39 (by decide) (fun c_20 => ?_) (fun c_20 => ?_)
      · skip
        refine lv_iload_n E.1.1 E.1.2.1 dX5_answer_47 rfl (lv_at hl 2 rfl) ?_
        refine b_lt (tgt := 68) E rfl dX5_answer_48 (by decide) (fun c_21 => ?_) (fun c_21 => ?_)
        · skip
          refine lv_iconst (v := -1) E.1.1 E.1.2.1 dX5_answer_68 (by decide) ?_
          have r_22 : (-1 : Int32).toInt = -1 := tI_m1
          exact ret_I (u := _) E hr hlk rfl B (by omega) dX5_answer_69
        · skip
          refine lv_iload_n E.1.1 E.1.2.1 dX5_answer_51 rfl (lv_at hl 2 rfl) ?_
          refine lv_aload_n E.1.1 E.1.2.1 dX5_answer_52 rfl (lv_at hl 1 rfl) ?_
          refine row_get (v := .int (u_15 33)) E B iX5 rfl 8 (by decide) mw_362 50 rfl rfl dX5_answer_53 ?_
          refine c_ge (tgt := 68) E rfl h_17 dX5_answer_56 (by decide) (fun c_23 => ?_) (fun c_23 => ?_)
          · skip
            refine lv_iconst (v := -1) E.1.1 E.1.2.1 dX5_answer_68 (by decide) ?_
            have r_24 : (-1 : Int32).toInt = -1 := tI_m1
            exact ret_I (u := _) E hr hlk rfl B (by omega) dX5_answer_69
          · exfalso; omega
      · skip
        refine lv_aload_n E.1.1 E.1.2.1 dX5_answer_42 rfl (lv_at hl 1 rfl) ?_
        refine row_get (v := .int (u_15 34)) E B iX5 rfl 9 (by decide) mw_363 50 rfl rfl dX5_answer_43 ?_
        have r_25 : (u_15 34).toInt = 0 := h_18
        exact ret_I (u := _) E hr hlk rfl B (by omega) dX5_answer_46
    · exfalso; omega
set_option maxHeartbeats 4000000 in
set_option maxRecDepth 100000 in
theorem x_5_daysOf (l : Launch) (D : va_G) (ct : Nat → ClassId) (tN : Nat) (ad : Nat → Nat) (iv : Nat → Int32) (ia : Nat → Nat → Int32) (la : Nat → Nat → Int64) (pt : Nat → Option Nat) (ra : Nat → Nat → Option Nat) (R : va_W) (p0 : Int32) (h3 : (iv 3).toInt = 0) (g51 : ∀ j, (ia 51 j).toInt = 0) : MI l D (TY ct) tN yX5_daysOf cX5_daysOf 6 (some .int) ({ frames := 2, cells := 0, slots := 0, locals := 42 } : Room) [.ref (ad 50), .int p0] (XW ct ad iv ia la pt ra R) (fun (v : Int32) (u : va_W) => (p0.toInt = 0 ∧ v.toInt = 0) ∨ (¬ p0.toInt = 0 ∧ v.toInt = -1)) (fun u => u) 0 0 := by
  intro sz
  refine Met.ofE (Qc := fun A => va_Qi (fun (v : Int32) (u : va_W) => (p0.toInt = 0 ∧ v.toInt = 0) ∨ (¬ p0.toInt = 0 ∧ v.toInt = -1)) (BW D A (fun u => u)) A) (by decide) (Nat.le_of_ble_eq_true rfl) ?_
  intro p e s m args below meth c A ls hsz E hr hlk hnm B hl
  have hl : lv_has ls 6 [(0, .ref (ad 50)), (1, .int p0)] := hl
  refine lv_aload_n E.1.1 E.1.2.1 dX5_daysOf_0 rfl (lv_at hl 0 rfl) ?_
  refine call_VV (kn := 0) E B (x_5_gatherBooks l D ct tN ad iv ia la pt ra R   h3 g51) (good_V mw_1366 mw_1368 ms_66 mw_11 mw_1369) 50 rfl rfl ⟨rfl, by decide +kernel⟩ rfl rfl rfl ⟨by decide, by decide⟩ rfl hl (Nat.le_of_ble_eq_true rfl) dX5_daysOf_1 ⟨Nat.le_of_ble_eq_true rfl, Nat.le_of_ble_eq_true rfl⟩ (fun u_2 H locs w_3 B => ?_)
  obtain ⟨iv_4, ia_5⟩ := u_2
  have h_6 := w_3
  have h_6 : (iv_4 33).toInt = 0 := h_6
  have B : Hp D A s.heap (XW ct ad iv_4 ia_5 la pt ra R) H locs := B
  refine at_n (n := 4) (k1 := 0) (k2 := 0) rfl rfl rfl ?_
  refine lv_aload_n E.1.1 E.1.2.1 dX5_daysOf_4 rfl (lv_at hl 0 rfl) ?_
  refine call_VI (kn := 0) E B (x_5_daysOfCentre l D ct tN ad iv_4 ia_5 la pt ra R   h_6) (good_V mw_1374 mw_1376 ms_67 mw_11 mw_1377) 50 rfl rfl ⟨rfl, by decide +kernel⟩ rfl rfl rfl ⟨by decide, by decide⟩ rfl hl (Nat.le_of_ble_eq_true rfl) dX5_daysOf_5 ⟨Nat.le_of_ble_eq_true rfl, Nat.le_of_ble_eq_true rfl⟩ (fun v_7 u_8 H locs w_9 B => ?_)
  have w_9 : v_7.toInt = 0 := w_9
  have B : Hp D A s.heap (XW ct ad iv_4 ia_5 la pt ra R) H locs := B
  refine at_n (n := 8) (k1 := 0) (k2 := 0) rfl rfl rfl ?_
  refine lv_istore_n (lv' := [(2, .int v_7), (0, .ref (ad 50)), (1, .int p0)]) E.1.1 E.1.2.1 dX5_daysOf_8 rfl hl (by decide) rfl (fun ls hl => ?_)
  refine lv_iload_n E.1.1 E.1.2.1 dX5_daysOf_9 rfl (lv_at hl 2 rfl) ?_
  refine lv_istore_n (lv' := [(3, .int p0), (2, .int v_7), (0, .ref (ad 50)), (1, .int p0)]) E.1.1 E.1.2.1 dX5_daysOf_10 rfl hl (by decide) rfl (fun ls hl => ?_)
  refine lv_iconst (v := 0) E.1.1 E.1.2.1 dX5_daysOf_11 (by decide) ?_
  refine lv_istore (lv' := [(4, .int (0 : Int32)), (3, .int p0), (2, .int v_7), (0, .ref (ad 50)), (1, .int p0)]) E.1.1 E.1.2.1 dX5_daysOf_12 hl (by decide) rfl (fun ls hl => ?_)
  refine lv_iload E.1.1 E.1.2.1 dX5_daysOf_14 (lv_at hl 0 rfl) ?_
  refine at_pc (n := 16) rfl ?_
  refine lv_aload_n E.1.1 E.1.2.1 dX5_daysOf_16 rfl (lv_at hl 3 rfl) ?_
  refine row_get (v := .int (iv_4 33)) E B iX5 rfl 8 (by decide) mw_362 50 rfl rfl dX5_daysOf_17 ?_
  refine c_ge (tgt := 109) E tI_0 h_6 dX5_daysOf_20 (by decide) (fun c_10 => ?_) (fun c_10 => ?_)
  · skip
    refine lv_iload_n E.1.1 E.1.2.1 dX5_daysOf_109 rfl (lv_at hl 1 rfl) ?_
    refine b_ne (tgt := 117) E rfl dX5_daysOf_110 (by decide) (fun c_11 => ?_) (fun c_11 => ?_)
    · skip
      refine lv_iconst (v := -1) E.1.1 E.1.2.1 dX5_daysOf_117 (by decide) ?_
      have r_12 : (-1 : Int32).toInt = -1 := tI_m1
      exact ret_I (u := _) E hr hlk rfl B (by omega) dX5_daysOf_118
    · skip
      refine lv_iload_n E.1.1 E.1.2.1 dX5_daysOf_113 rfl (lv_at hl 2 rfl) ?_
      refine lv_goto (tgt := 118) E.1.1 E.1.2.1 dX5_daysOf_114 (by decide) ?_
      have r_13 : v_7.toInt = 0 := w_9
      exact ret_I (u := _) E hr hlk rfl B (by omega) dX5_daysOf_118
  · exfalso; omega
set_option maxHeartbeats 4000000 in
set_option maxRecDepth 100000 in
theorem x_11_putFour (l : Launch) (D : va_G) (ct : Nat → ClassId) (tN : Nat) (ad : Nat → Nat) (iv : Nat → Int32) (ia : Nat → Nat → Int32) (la : Nat → Nat → Int64) (pt : Nat → Option Nat) (ra : Nat → Nat → Option Nat) (R : va_W) (t : Int) (p0 : Int32) (h0 : (iv 0).toInt = t) (k0 : 0 ≤ t ∧ t ≤ 180) : MV l D (TY ct) tN yX11_putFour cX11_putFour 3 ({ frames := 0, cells := 0, slots := 0, locals := 0 } : Room) [.ref (ad 0), .int p0] (XW ct ad iv ia la pt ra R) (fun (u : (Nat → Int32) × (Nat → Nat → Int32)) => (u.1 0).toInt = t + 4) (fun u => XW ct ad u.1 u.2 la pt ra R) 0 0 := by
  intro sz
  refine Met.ofE (Qc := fun A => va_Qv (fun (u : (Nat → Int32) × (Nat → Nat → Int32)) => (u.1 0).toInt = t + 4) (BW D A (fun u => XW ct ad u.1 u.2 la pt ra R)) A) (by decide) (Nat.le_of_ble_eq_true rfl) ?_
  intro p e s m args below meth c A ls hsz E hr hlk hnm B hl
  have hl : lv_has ls 3 [(0, .ref (ad 0)), (1, .int p0)] := hl
  refine lv_bipush (v := 24) E.1.1 E.1.2.1 dX11_putFour_0 (by decide) ?_
  refine lv_istore_n (lv' := [(2, .int (24 : Int32)), (0, .ref (ad 0)), (1, .int p0)]) E.1.1 E.1.2.1 dX11_putFour_2 rfl hl (by decide) rfl (fun ls hl => ?_)
  refine lv_iload_n E.1.1 E.1.2.1 dX11_putFour_3 rfl (lv_at hl 0 rfl) ?_
  refine b_lt (tgt := 49) E tI_24 dX11_putFour_4 (by decide) (fun c_1 => ?_) (fun c_1 => ?_)
  · exfalso; omega
  · skip
    refine lv_aload_n E.1.1 E.1.2.1 dX11_putFour_7 rfl (lv_at hl 1 rfl) ?_
    refine row_get (v := .int (iv 0)) E B iX11 rfl 12 (by decide) mw_397 0 rfl rfl dX11_putFour_8 ?_
    refine lv_sipush (v := 200) E.1.1 E.1.2.1 dX11_putFour_11 (by decide) ?_
    refine c_ge (tgt := 43) E h0 tI_200 dX11_putFour_14 (by decide) (fun c_2 => ?_) (fun c_2 => ?_)
    · exfalso; omega
    · skip
      refine lv_aload_n E.1.1 E.1.2.1 dX11_putFour_17 rfl (lv_at hl 1 rfl) ?_
      refine row_get (v := .ref (ad 1)) E B iX11 rfl 0 (by decide) mw_385 0 rfl rfl dX11_putFour_18 ?_
      refine lv_aload_n E.1.1 E.1.2.1 dX11_putFour_21 rfl (lv_at hl 1 rfl) ?_
      refine row_get (v := .int (iv 0)) E B iX11 rfl 12 (by decide) mw_397 0 rfl rfl dX11_putFour_22 ?_
      refine lv_iload_n E.1.1 E.1.2.1 dX11_putFour_25 rfl (lv_at hl 2 rfl) ?_
      refine lv_iload_n E.1.1 E.1.2.1 dX11_putFour_26 rfl (lv_at hl 0 rfl) ?_
      refine at_pc (n := 27) rfl ?_
      refine lv_iushr E.1.1 E.1.2.1 dX11_putFour_27 rfl (any_i (fun z_3 => ?_))
      refine lv_sipush (v := 255) E.1.1 E.1.2.1 dX11_putFour_28 (by decide) ?_
      refine lv_iand E.1.1 E.1.2.1 dX11_putFour_31 (any_i (fun z_4 => ?_))
      refine row_iast E B 1 rfl (vp_of h0 (by omega) (by omega)) dX11_putFour_32 (fun H locs B => ?_)
      have B := Hp.eq (sx_ia_1 ct ad iv ia la pt ra R (upd (ia 1) (iv 0).toNatClampNeg z_4)) B
      generalize va_up ia 1 (upd (ia 1) (iv 0).toNatClampNeg z_4) = ia_5 at B 
      refine lv_aload_n E.1.1 E.1.2.1 dX11_putFour_33 rfl (lv_at hl 1 rfl) ?_
      refine lv_dup E.1.1 E.1.2.1 dX11_putFour_34 rfl ?_
      refine at_pc (n := 35) rfl ?_
      refine row_get (v := .int (iv 0)) E B iX11 rfl 12 (by decide) mw_397 0 rfl rfl dX11_putFour_35 ?_
      refine lv_iconst (v := 1) E.1.1 E.1.2.1 dX11_putFour_38 (by decide) ?_
      refine i_add E h0 tI_1 (by omega) (by omega) dX11_putFour_39 (fun z_6 ez_6 => ?_)
      have ez_6 : z_6.toInt = t + 1 := by omega
      refine row_put E B iX11 rfl tyX11 tyX11_ok nmX11 12 (by decide) mw_397 rfl 0 rfl rfl rfl (Nat.le_of_ble_eq_true rfl) dX11_putFour_40 (fun H locs B => ?_)
      have B := Hp.eq (sx_iv_0 ct ad iv ia_5 la pt ra R z_6) B
      have h_8 : ((va_up iv 0 z_6) 0).toInt = t + 1 := ez_6
      generalize va_up iv 0 z_6 = iv_7 at B h_8
      refine lv_iinc (v := 16) (lv' := [(2, .int (16 : Int32)), (0, .ref (ad 0)), (1, .int p0)]) E.1.1 E.1.2.1 dX11_putFour_43 hl (k := 0) rfl (by decide) (by decide) rfl (fun ls hl => ?_)
      refine lv_goto (tgt := 3) E.1.1 E.1.2.1 dX11_putFour_46 (by decide) ?_
      refine lv_iload_n E.1.1 E.1.2.1 dX11_putFour_3 rfl (lv_at hl 0 rfl) ?_
      refine at_pc (n := 4) rfl ?_
      refine b_lt (tgt := 49) E tI_16 dX11_putFour_4 (by decide) (fun c_9 => ?_) (fun c_9 => ?_)
      · exfalso; omega
      · skip
        refine lv_aload_n E.1.1 E.1.2.1 dX11_putFour_7 rfl (lv_at hl 1 rfl) ?_
        refine row_get (v := .int (iv_7 0)) E B iX11 rfl 12 (by decide) mw_397 0 rfl rfl dX11_putFour_8 ?_
        refine lv_sipush (v := 200) E.1.1 E.1.2.1 dX11_putFour_11 (by decide) ?_
        refine c_ge (tgt := 43) E h_8 tI_200 dX11_putFour_14 (by decide) (fun c_10 => ?_) (fun c_10 => ?_)
        · exfalso; omega
        · skip
          refine lv_aload_n E.1.1 E.1.2.1 dX11_putFour_17 rfl (lv_at hl 1 rfl) ?_
          refine row_get (v := .ref (ad 1)) E B iX11 rfl 0 (by decide) mw_385 0 rfl rfl dX11_putFour_18 ?_
          refine lv_aload_n E.1.1 E.1.2.1 dX11_putFour_21 rfl (lv_at hl 1 rfl) ?_
          refine row_get (v := .int (iv_7 0)) E B iX11 rfl 12 (by decide) mw_397 0 rfl rfl dX11_putFour_22 ?_
          refine lv_iload_n E.1.1 E.1.2.1 dX11_putFour_25 rfl (lv_at hl 2 rfl) ?_
          refine lv_iload_n E.1.1 E.1.2.1 dX11_putFour_26 rfl (lv_at hl 0 rfl) ?_
          refine at_pc (n := 27) rfl ?_
          refine lv_iushr E.1.1 E.1.2.1 dX11_putFour_27 rfl (any_i (fun z_11 => ?_))
          refine lv_sipush (v := 255) E.1.1 E.1.2.1 dX11_putFour_28 (by decide) ?_
          refine lv_iand E.1.1 E.1.2.1 dX11_putFour_31 (any_i (fun z_12 => ?_))
          refine row_iast E B 1 rfl (vp_of h_8 (by omega) (by omega)) dX11_putFour_32 (fun H locs B => ?_)
          have B := Hp.eq (sx_ia_1 ct ad iv_7 ia_5 la pt ra R (upd (ia_5 1) (iv_7 0).toNatClampNeg z_12)) B
          generalize va_up ia_5 1 (upd (ia_5 1) (iv_7 0).toNatClampNeg z_12) = ia_13 at B 
          refine lv_aload_n E.1.1 E.1.2.1 dX11_putFour_33 rfl (lv_at hl 1 rfl) ?_
          refine lv_dup E.1.1 E.1.2.1 dX11_putFour_34 rfl ?_
          refine at_pc (n := 35) rfl ?_
          refine row_get (v := .int (iv_7 0)) E B iX11 rfl 12 (by decide) mw_397 0 rfl rfl dX11_putFour_35 ?_
          refine lv_iconst (v := 1) E.1.1 E.1.2.1 dX11_putFour_38 (by decide) ?_
          refine i_add E h_8 tI_1 (by omega) (by omega) dX11_putFour_39 (fun z_14 ez_14 => ?_)
          have ez_14 : z_14.toInt = t + 2 := by omega
          refine row_put E B iX11 rfl tyX11 tyX11_ok nmX11 12 (by decide) mw_397 rfl 0 rfl rfl rfl (Nat.le_of_ble_eq_true rfl) dX11_putFour_40 (fun H locs B => ?_)
          have B := Hp.eq (sx_iv_0 ct ad iv_7 ia_13 la pt ra R z_14) B
          have h_16 : ((va_up iv_7 0 z_14) 0).toInt = t + 2 := ez_14
          generalize va_up iv_7 0 z_14 = iv_15 at B h_16
          refine lv_iinc (v := 8) (lv' := [(2, .int (8 : Int32)), (0, .ref (ad 0)), (1, .int p0)]) E.1.1 E.1.2.1 dX11_putFour_43 hl (k := 0) rfl (by decide) (by decide) rfl (fun ls hl => ?_)
          refine lv_goto (tgt := 3) E.1.1 E.1.2.1 dX11_putFour_46 (by decide) ?_
          refine lv_iload_n E.1.1 E.1.2.1 dX11_putFour_3 rfl (lv_at hl 0 rfl) ?_
          refine at_pc (n := 4) rfl ?_
          refine b_lt (tgt := 49) E tI_8 dX11_putFour_4 (by decide) (fun c_17 => ?_) (fun c_17 => ?_)
          · exfalso; omega
          · skip
            refine lv_aload_n E.1.1 E.1.2.1 dX11_putFour_7 rfl (lv_at hl 1 rfl) ?_
            refine row_get (v := .int (iv_15 0)) E B iX11 rfl 12 (by decide) mw_397 0 rfl rfl dX11_putFour_8 ?_
            refine lv_sipush (v := 200) E.1.1 E.1.2.1 dX11_putFour_11 (by decide) ?_
            refine c_ge (tgt := 43) E h_16 tI_200 dX11_putFour_14 (by decide) (fun c_18 => ?_) (fun c_18 => ?_)
            · exfalso; omega
            · skip
              refine lv_aload_n E.1.1 E.1.2.1 dX11_putFour_17 rfl (lv_at hl 1 rfl) ?_
              refine row_get (v := .ref (ad 1)) E B iX11 rfl 0 (by decide) mw_385 0 rfl rfl dX11_putFour_18 ?_
              refine lv_aload_n E.1.1 E.1.2.1 dX11_putFour_21 rfl (lv_at hl 1 rfl) ?_
              refine row_get (v := .int (iv_15 0)) E B iX11 rfl 12 (by decide) mw_397 0 rfl rfl dX11_putFour_22 ?_
              refine lv_iload_n E.1.1 E.1.2.1 dX11_putFour_25 rfl (lv_at hl 2 rfl) ?_
              refine lv_iload_n E.1.1 E.1.2.1 dX11_putFour_26 rfl (lv_at hl 0 rfl) ?_
              refine at_pc (n := 27) rfl ?_
              refine lv_iushr E.1.1 E.1.2.1 dX11_putFour_27 rfl (any_i (fun z_19 => ?_))
              refine lv_sipush (v := 255) E.1.1 E.1.2.1 dX11_putFour_28 (by decide) ?_
              refine lv_iand E.1.1 E.1.2.1 dX11_putFour_31 (any_i (fun z_20 => ?_))
              refine row_iast E B 1 rfl (vp_of h_16 (by omega) (by omega)) dX11_putFour_32 (fun H locs B => ?_)
              have B := Hp.eq (sx_ia_1 ct ad iv_15 ia_13 la pt ra R (upd (ia_13 1) (iv_15 0).toNatClampNeg z_20)) B
              generalize va_up ia_13 1 (upd (ia_13 1) (iv_15 0).toNatClampNeg z_20) = ia_21 at B 
              refine lv_aload_n E.1.1 E.1.2.1 dX11_putFour_33 rfl (lv_at hl 1 rfl) ?_
              refine lv_dup E.1.1 E.1.2.1 dX11_putFour_34 rfl ?_
              refine at_pc (n := 35) rfl ?_
              refine row_get (v := .int (iv_15 0)) E B iX11 rfl 12 (by decide) mw_397 0 rfl rfl dX11_putFour_35 ?_
              refine lv_iconst (v := 1) E.1.1 E.1.2.1 dX11_putFour_38 (by decide) ?_
              refine i_add E h_16 tI_1 (by omega) (by omega) dX11_putFour_39 (fun z_22 ez_22 => ?_)
              have ez_22 : z_22.toInt = t + 3 := by omega
              refine row_put E B iX11 rfl tyX11 tyX11_ok nmX11 12 (by decide) mw_397 rfl 0 rfl rfl rfl (Nat.le_of_ble_eq_true rfl) dX11_putFour_40 (fun H locs B => ?_)
              have B := Hp.eq (sx_iv_0 ct ad iv_15 ia_21 la pt ra R z_22) B
              have h_24 : ((va_up iv_15 0 z_22) 0).toInt = t + 3 := ez_22
              generalize va_up iv_15 0 z_22 = iv_23 at B h_24
              refine lv_iinc (v := 0) (lv' := [(2, .int (0 : Int32)), (0, .ref (ad 0)), (1, .int p0)]) E.1.1 E.1.2.1 dX11_putFour_43 hl (k := 0) rfl (by decide) (by decide) rfl (fun ls hl => ?_)
              refine lv_goto (tgt := 3) E.1.1 E.1.2.1 dX11_putFour_46 (by decide) ?_
              refine lv_iload_n E.1.1 E.1.2.1 dX11_putFour_3 rfl (lv_at hl 0 rfl) ?_
              refine at_pc (n := 4) rfl ?_
              refine b_lt (tgt := 49) E tI_0 dX11_putFour_4 (by decide) (fun c_25 => ?_) (fun c_25 => ?_)
              · exfalso; omega
              · skip
                refine lv_aload_n E.1.1 E.1.2.1 dX11_putFour_7 rfl (lv_at hl 1 rfl) ?_
                refine row_get (v := .int (iv_23 0)) E B iX11 rfl 12 (by decide) mw_397 0 rfl rfl dX11_putFour_8 ?_
                refine lv_sipush (v := 200) E.1.1 E.1.2.1 dX11_putFour_11 (by decide) ?_
                refine c_ge (tgt := 43) E h_24 tI_200 dX11_putFour_14 (by decide) (fun c_26 => ?_) (fun c_26 => ?_)
                · exfalso; omega
                · skip
                  refine lv_aload_n E.1.1 E.1.2.1 dX11_putFour_17 rfl (lv_at hl 1 rfl) ?_
                  refine row_get (v := .ref (ad 1)) E B iX11 rfl 0 (by decide) mw_385 0 rfl rfl dX11_putFour_18 ?_
                  refine lv_aload_n E.1.1 E.1.2.1 dX11_putFour_21 rfl (lv_at hl 1 rfl) ?_
                  refine row_get (v := .int (iv_23 0)) E B iX11 rfl 12 (by decide) mw_397 0 rfl rfl dX11_putFour_22 ?_
                  refine lv_iload_n E.1.1 E.1.2.1 dX11_putFour_25 rfl (lv_at hl 2 rfl) ?_
                  refine lv_iload_n E.1.1 E.1.2.1 dX11_putFour_26 rfl (lv_at hl 0 rfl) ?_
                  refine at_pc (n := 27) rfl ?_
                  refine lv_iushr E.1.1 E.1.2.1 dX11_putFour_27 rfl (any_i (fun z_27 => ?_))
                  refine lv_sipush (v := 255) E.1.1 E.1.2.1 dX11_putFour_28 (by decide) ?_
                  refine lv_iand E.1.1 E.1.2.1 dX11_putFour_31 (any_i (fun z_28 => ?_))
                  refine row_iast E B 1 rfl (vp_of h_24 (by omega) (by omega)) dX11_putFour_32 (fun H locs B => ?_)
                  have B := Hp.eq (sx_ia_1 ct ad iv_23 ia_21 la pt ra R (upd (ia_21 1) (iv_23 0).toNatClampNeg z_28)) B
                  generalize va_up ia_21 1 (upd (ia_21 1) (iv_23 0).toNatClampNeg z_28) = ia_29 at B 
                  refine lv_aload_n E.1.1 E.1.2.1 dX11_putFour_33 rfl (lv_at hl 1 rfl) ?_
                  refine lv_dup E.1.1 E.1.2.1 dX11_putFour_34 rfl ?_
                  refine at_pc (n := 35) rfl ?_
                  refine row_get (v := .int (iv_23 0)) E B iX11 rfl 12 (by decide) mw_397 0 rfl rfl dX11_putFour_35 ?_
                  refine lv_iconst (v := 1) E.1.1 E.1.2.1 dX11_putFour_38 (by decide) ?_
                  refine i_add E h_24 tI_1 (by omega) (by omega) dX11_putFour_39 (fun z_30 ez_30 => ?_)
                  have ez_30 : z_30.toInt = t + 4 := by omega
                  refine row_put E B iX11 rfl tyX11 tyX11_ok nmX11 12 (by decide) mw_397 rfl 0 rfl rfl rfl (Nat.le_of_ble_eq_true rfl) dX11_putFour_40 (fun H locs B => ?_)
                  have B := Hp.eq (sx_iv_0 ct ad iv_23 ia_29 la pt ra R z_30) B
                  have h_32 : ((va_up iv_23 0 z_30) 0).toInt = t + 4 := ez_30
                  generalize va_up iv_23 0 z_30 = iv_31 at B h_32
                  refine lv_iinc (v := -8) (lv' := [(2, .int (-8 : Int32)), (0, .ref (ad 0)), (1, .int p0)]) E.1.1 E.1.2.1 dX11_putFour_43 hl (k := 0) rfl (by decide) (by decide) rfl (fun ls hl => ?_)
                  refine lv_goto (tgt := 3) E.1.1 E.1.2.1 dX11_putFour_46 (by decide) ?_
                  refine lv_iload_n E.1.1 E.1.2.1 dX11_putFour_3 rfl (lv_at hl 0 rfl) ?_
                  refine at_pc (n := 4) rfl ?_
                  refine b_lt (tgt := 49) E tI_m8 dX11_putFour_4 (by decide) (fun c_33 => ?_) (fun c_33 => ?_)
                  · skip
                    exact ret_V (u := (iv_31, ia_29)) E hr hlk B (by have := h_32; omega) dX11_putFour_49
                  · exfalso; omega
end
section
theorem dX11_apart_0 : decode cX11_apart 0 = .ok (.iload_n 1, 1) := by decide +kernel
theorem dX11_apart_1 : decode cX11_apart 1 = .ok (.invokestatic 311, 3) := by decide +kernel
theorem dX11_apart_4 : decode cX11_apart 4 = .ok (.ifCond .eq 31, 3) := by decide +kernel
theorem dX11_apart_7 : decode cX11_apart 7 = .ok (.iload_n 2, 1) := by decide +kernel
theorem dX11_apart_8 : decode cX11_apart 8 = .ok (.invokestatic 311, 3) := by decide +kernel
theorem dX11_apart_11 : decode cX11_apart 11 = .ok (.ifCond .eq 24, 3) := by decide +kernel
theorem dX11_apart_14 : decode cX11_apart 14 = .ok (.iload_n 1, 1) := by decide +kernel
theorem dX11_apart_15 : decode cX11_apart 15 = .ok (.iload_n 2, 1) := by decide +kernel
theorem dX11_apart_16 : decode cX11_apart 16 = .ok (.if_icmp .eq 19, 3) := by decide +kernel
theorem dX11_apart_19 : decode cX11_apart 19 = .ok (.aload_n 0, 1) := by decide +kernel
theorem dX11_apart_20 : decode cX11_apart 20 = .ok (.getfield 81, 3) := by decide +kernel
theorem dX11_apart_23 : decode cX11_apart 23 = .ok (.iload_n 1, 1) := by decide +kernel
theorem dX11_apart_24 : decode cX11_apart 24 = .ok (.iload_n 2, 1) := by decide +kernel
theorem dX11_apart_25 : decode cX11_apart 25 = .ok (.invokevirtual 316, 3) := by decide +kernel
theorem dX11_apart_28 : decode cX11_apart 28 = .ok (.ifCond .eq 7, 3) := by decide +kernel
theorem dX11_apart_31 : decode cX11_apart 31 = .ok (.iconst 1, 1) := by decide +kernel
theorem dX11_apart_32 : decode cX11_apart 32 = .ok (.goto 4, 3) := by decide +kernel
theorem dX11_apart_35 : decode cX11_apart 35 = .ok (.iconst 0, 1) := by decide +kernel
theorem dX11_apart_36 : decode cX11_apart 36 = .ok (.ireturn, 1) := by decide +kernel
theorem dX11_asks_0 : decode cX11_asks 0 = .ok (.aload_n 0, 1) := by decide +kernel
theorem dX11_asks_1 : decode cX11_asks 1 = .ok (.getfield 26, 3) := by decide +kernel
theorem dX11_asks_4 : decode cX11_asks 4 = .ok (.iload_n 1, 1) := by decide +kernel
theorem dX11_asks_5 : decode cX11_asks 5 = .ok (.invokevirtual 113, 3) := by decide +kernel
theorem dX11_asks_8 : decode cX11_asks 8 = .ok (.ifCond .eq 10, 3) := by decide +kernel
theorem dX11_asks_18 : decode cX11_asks 18 = .ok (.iconst (-1), 1) := by decide +kernel
theorem dX11_asks_19 : decode cX11_asks 19 = .ok (.ireturn, 1) := by decide +kernel
theorem dX11_breach_0 : decode cX11_breach 0 = .ok (.aload_n 0, 1) := by decide +kernel
theorem dX11_breach_1 : decode cX11_breach 1 = .ok (.getfield 47, 3) := by decide +kernel
theorem dX11_breach_4 : decode cX11_breach 4 = .ok (.iload_n 1, 1) := by decide +kernel
theorem dX11_breach_5 : decode cX11_breach 5 = .ok (.invokevirtual 240, 3) := by decide +kernel
theorem dX11_breach_8 : decode cX11_breach 8 = .ok (.astore 4, 2) := by decide +kernel
theorem dX11_breach_10 : decode cX11_breach 10 = .ok (.aload 4, 2) := by decide +kernel
theorem dX11_breach_12 : decode cX11_breach 12 = .ok (.ifnull 16, 3) := by decide +kernel
theorem dX11_breach_28 : decode cX11_breach 28 = .ok (.iconst (-1), 1) := by decide +kernel
theorem dX11_breach_29 : decode cX11_breach 29 = .ok (.ireturn, 1) := by decide +kernel
theorem dX11_breaches_0 : decode cX11_breaches 0 = .ok (.aload_n 0, 1) := by decide +kernel
theorem dX11_breaches_1 : decode cX11_breaches 1 = .ok (.getfield 47, 3) := by decide +kernel
theorem dX11_breaches_4 : decode cX11_breaches 4 = .ok (.iload_n 1, 1) := by decide +kernel
theorem dX11_breaches_5 : decode cX11_breaches 5 = .ok (.invokevirtual 240, 3) := by decide +kernel
theorem dX11_breaches_8 : decode cX11_breaches 8 = .ok (.astore_n 2, 1) := by decide +kernel
theorem dX11_breaches_9 : decode cX11_breaches 9 = .ok (.aload_n 2, 1) := by decide +kernel
theorem dX11_breaches_10 : decode cX11_breaches 10 = .ok (.ifnonnull 5, 3) := by decide +kernel
theorem dX11_breaches_13 : decode cX11_breaches 13 = .ok (.iconst (-1), 1) := by decide +kernel
theorem dX11_breaches_14 : decode cX11_breaches 14 = .ok (.ireturn, 1) := by decide +kernel
theorem dX11_centre_0 : decode cX11_centre 0 = .ok (.iload_n 1, 1) := by decide +kernel
theorem dX11_centre_1 : decode cX11_centre 1 = .ok (.invokestatic 147, 3) := by decide +kernel
theorem dX11_centre_4 : decode cX11_centre 4 = .ok (.ifCond .ne 5, 3) := by decide +kernel
theorem dX11_centre_7 : decode cX11_centre 7 = .ok (.iconst 0, 1) := by decide +kernel
theorem dX11_centre_8 : decode cX11_centre 8 = .ok (.ireturn, 1) := by decide +kernel
theorem dX11_centre_9 : decode cX11_centre 9 = .ok (.aload_n 0, 1) := by decide +kernel
theorem dX11_centre_10 : decode cX11_centre 10 = .ok (.getfield 33, 3) := by decide +kernel
theorem dX11_centre_13 : decode cX11_centre 13 = .ok (.iload_n 1, 1) := by decide +kernel
theorem dX11_centre_14 : decode cX11_centre 14 = .ok (.invokevirtual 153, 3) := by decide +kernel
theorem dX11_centre_17 : decode cX11_centre 17 = .ok (.iconst 1, 1) := by decide +kernel
theorem dX11_centre_18 : decode cX11_centre 18 = .ok (.ireturn, 1) := by decide +kernel
theorem dX11_changes_0 : decode cX11_changes 0 = .ok (.aload_n 0, 1) := by decide +kernel
theorem dX11_changes_1 : decode cX11_changes 1 = .ok (.getfield 26, 3) := by decide +kernel
theorem dX11_changes_4 : decode cX11_changes 4 = .ok (.iload_n 1, 1) := by decide +kernel
theorem dX11_changes_5 : decode cX11_changes 5 = .ok (.invokevirtual 113, 3) := by decide +kernel
theorem dX11_changes_8 : decode cX11_changes 8 = .ok (.ifCond .eq 19, 3) := by decide +kernel
theorem dX11_changes_27 : decode cX11_changes 27 = .ok (.iconst (-1), 1) := by decide +kernel
theorem dX11_changes_28 : decode cX11_changes 28 = .ok (.ireturn, 1) := by decide +kernel
theorem dX11_check_0 : decode cX11_check 0 = .ok (.iload_n 1, 1) := by decide +kernel
theorem dX11_check_1 : decode cX11_check 1 = .ok (.ifCond .lt 19, 3) := by decide +kernel
theorem dX11_check_4 : decode cX11_check 4 = .ok (.iload_n 1, 1) := by decide +kernel
theorem dX11_check_5 : decode cX11_check 5 = .ok (.bipush 60, 2) := by decide +kernel
theorem dX11_check_7 : decode cX11_check 7 = .ok (.if_icmp .gt 13, 3) := by decide +kernel
theorem dX11_check_10 : decode cX11_check 10 = .ok (.iconst 2, 1) := by decide +kernel
theorem dX11_check_11 : decode cX11_check 11 = .ok (.iload_n 1, 1) := by decide +kernel
theorem dX11_check_12 : decode cX11_check 12 = .ok (.imul, 1) := by decide +kernel
theorem dX11_check_13 : decode cX11_check 13 = .ok (.aload_n 0, 1) := by decide +kernel
theorem dX11_check_14 : decode cX11_check 14 = .ok (.getfield 102, 3) := by decide +kernel
theorem dX11_check_17 : decode cX11_check 17 = .ok (.if_icmp .le 6, 3) := by decide +kernel
theorem dX11_check_20 : decode cX11_check 20 = .ok (.bipush (-2), 2) := by decide +kernel
theorem dX11_check_22 : decode cX11_check 22 = .ok (.ireturn, 1) := by decide +kernel
theorem dX11_check_23 : decode cX11_check 23 = .ok (.aload_n 0, 1) := by decide +kernel
theorem dX11_check_24 : decode cX11_check 24 = .ok (.iconst 0, 1) := by decide +kernel
theorem dX11_check_25 : decode cX11_check 25 = .ok (.putfield 102, 3) := by decide +kernel
theorem dX11_check_28 : decode cX11_check 28 = .ok (.aload_n 0, 1) := by decide +kernel
theorem dX11_check_29 : decode cX11_check 29 = .ok (.iconst 2, 1) := by decide +kernel
theorem dX11_check_30 : decode cX11_check 30 = .ok (.iload_n 1, 1) := by decide +kernel
theorem dX11_check_31 : decode cX11_check 31 = .ok (.imul, 1) := by decide +kernel
theorem dX11_check_32 : decode cX11_check 32 = .ok (.invokevirtual 379, 3) := by decide +kernel
theorem dX11_check_35 : decode cX11_check 35 = .ok (.ireturn, 1) := by decide +kernel
theorem dX11_close_0 : decode cX11_close 0 = .ok (.aload_n 0, 1) := by decide +kernel
theorem dX11_close_1 : decode cX11_close 1 = .ok (.getfield 47, 3) := by decide +kernel
theorem dX11_close_4 : decode cX11_close 4 = .ok (.iload_n 1, 1) := by decide +kernel
theorem dX11_close_5 : decode cX11_close 5 = .ok (.invokevirtual 240, 3) := by decide +kernel
theorem dX11_close_8 : decode cX11_close 8 = .ok (.astore_n 2, 1) := by decide +kernel
theorem dX11_close_9 : decode cX11_close 9 = .ok (.aload_n 2, 1) := by decide +kernel
theorem dX11_close_10 : decode cX11_close 10 = .ok (.ifnull 10, 3) := by decide +kernel
theorem dX11_close_20 : decode cX11_close 20 = .ok (.iconst (-1), 1) := by decide +kernel
theorem dX11_close_21 : decode cX11_close 21 = .ok (.ireturn, 1) := by decide +kernel
theorem dX11_company_0 : decode cX11_company 0 = .ok (.iload_n 1, 1) := by decide +kernel
theorem dX11_company_1 : decode cX11_company 1 = .ok (.ifCond .lt 17, 3) := by decide +kernel
theorem dX11_company_4 : decode cX11_company 4 = .ok (.iload_n 1, 1) := by decide +kernel
theorem dX11_company_5 : decode cX11_company 5 = .ok (.sipush 255, 3) := by decide +kernel
theorem dX11_company_8 : decode cX11_company 8 = .ok (.if_icmp .gt 10, 3) := by decide +kernel
theorem dX11_company_11 : decode cX11_company 11 = .ok (.iload_n 2, 1) := by decide +kernel
theorem dX11_company_12 : decode cX11_company 12 = .ok (.invokestatic 147, 3) := by decide +kernel
theorem dX11_company_15 : decode cX11_company 15 = .ok (.ifCond .ne 5, 3) := by decide +kernel
theorem dX11_company_18 : decode cX11_company 18 = .ok (.iconst (-1), 1) := by decide +kernel
theorem dX11_company_19 : decode cX11_company 19 = .ok (.ireturn, 1) := by decide +kernel
theorem dX11_company_20 : decode cX11_company 20 = .ok (.aload_n 0, 1) := by decide +kernel
theorem dX11_company_21 : decode cX11_company 21 = .ok (.getfield 33, 3) := by decide +kernel
theorem dX11_company_24 : decode cX11_company 24 = .ok (.iload_n 1, 1) := by decide +kernel
theorem dX11_company_25 : decode cX11_company 25 = .ok (.iload_n 2, 1) := by decide +kernel
theorem dX11_company_26 : decode cX11_company 26 = .ok (.invokevirtual 150, 3) := by decide +kernel
theorem dX11_company_29 : decode cX11_company 29 = .ok (.ireturn, 1) := by decide +kernel
theorem dX11_cost_0 : decode cX11_cost 0 = .ok (.aload_n 0, 1) := by decide +kernel
theorem dX11_cost_1 : decode cX11_cost 1 = .ok (.getfield 81, 3) := by decide +kernel
theorem dX11_cost_4 : decode cX11_cost 4 = .ok (.iload_n 1, 1) := by decide +kernel
theorem dX11_cost_5 : decode cX11_cost 5 = .ok (.invokevirtual 319, 3) := by decide +kernel
theorem dX11_cost_8 : decode cX11_cost 8 = .ok (.ifCond .ne 5, 3) := by decide +kernel
theorem dX11_cost_11 : decode cX11_cost 11 = .ok (.iconst (-1), 1) := by decide +kernel
theorem dX11_cost_12 : decode cX11_cost 12 = .ok (.ireturn, 1) := by decide +kernel
theorem dX11_cost_13 : decode cX11_cost 13 = .ok (.aload_n 0, 1) := by decide +kernel
theorem dX11_cost_14 : decode cX11_cost 14 = .ok (.getfield 81, 3) := by decide +kernel
theorem dX11_cost_17 : decode cX11_cost 17 = .ok (.aload_n 0, 1) := by decide +kernel
theorem dX11_cost_18 : decode cX11_cost 18 = .ok (.getfield 98, 3) := by decide +kernel
theorem dX11_cost_21 : decode cX11_cost 21 = .ok (.invokevirtual 322, 3) := by decide +kernel
theorem dX11_cost_24 : decode cX11_cost 24 = .ok (.aload_n 0, 1) := by decide +kernel
theorem dX11_cost_25 : decode cX11_cost 25 = .ok (.getfield 81, 3) := by decide +kernel
theorem dX11_cost_28 : decode cX11_cost 28 = .ok (.invokevirtual 325, 3) := by decide +kernel
theorem dX11_cost_31 : decode cX11_cost 31 = .ok (.ireturn, 1) := by decide +kernel
theorem dX11_count_0 : decode cX11_count 0 = .ok (.iload_n 1, 1) := by decide +kernel
theorem dX11_count_1 : decode cX11_count 1 = .ok (.tableswitch 154 0 10 #[59, 64, 72, 80, 88, 96, 104, 112, 117, 125, 133], 59) := by decide +kernel
theorem dX11_count_60 : decode cX11_count 60 = .ok (.aload_n 0, 1) := by decide +kernel
theorem dX11_count_61 : decode cX11_count 61 = .ok (.getfield 98, 3) := by decide +kernel
theorem dX11_count_64 : decode cX11_count 64 = .ok (.ireturn, 1) := by decide +kernel
theorem dX11_count_65 : decode cX11_count 65 = .ok (.aload_n 0, 1) := by decide +kernel
theorem dX11_count_66 : decode cX11_count 66 = .ok (.getfield 26, 3) := by decide +kernel
theorem dX11_count_69 : decode cX11_count 69 = .ok (.invokevirtual 331, 3) := by decide +kernel
theorem dX11_count_72 : decode cX11_count 72 = .ok (.ireturn, 1) := by decide +kernel
theorem dX11_count_73 : decode cX11_count 73 = .ok (.aload_n 0, 1) := by decide +kernel
theorem dX11_count_74 : decode cX11_count 74 = .ok (.getfield 19, 3) := by decide +kernel
theorem dX11_count_77 : decode cX11_count 77 = .ok (.invokevirtual 385, 3) := by decide +kernel
theorem dX11_count_80 : decode cX11_count 80 = .ok (.ireturn, 1) := by decide +kernel
theorem dX11_count_81 : decode cX11_count 81 = .ok (.aload_n 0, 1) := by decide +kernel
theorem dX11_count_82 : decode cX11_count 82 = .ok (.getfield 33, 3) := by decide +kernel
theorem dX11_count_85 : decode cX11_count 85 = .ok (.invokevirtual 386, 3) := by decide +kernel
theorem dX11_count_88 : decode cX11_count 88 = .ok (.ireturn, 1) := by decide +kernel
theorem dX11_count_89 : decode cX11_count 89 = .ok (.aload_n 0, 1) := by decide +kernel
theorem dX11_count_90 : decode cX11_count 90 = .ok (.getfield 33, 3) := by decide +kernel
theorem dX11_count_93 : decode cX11_count 93 = .ok (.invokevirtual 389, 3) := by decide +kernel
theorem dX11_count_96 : decode cX11_count 96 = .ok (.ireturn, 1) := by decide +kernel
theorem dX11_count_97 : decode cX11_count 97 = .ok (.aload_n 0, 1) := by decide +kernel
theorem dX11_count_98 : decode cX11_count 98 = .ok (.getfield 40, 3) := by decide +kernel
theorem dX11_count_101 : decode cX11_count 101 = .ok (.invokevirtual 392, 3) := by decide +kernel
theorem dX11_count_104 : decode cX11_count 104 = .ok (.ireturn, 1) := by decide +kernel
theorem dX11_count_105 : decode cX11_count 105 = .ok (.aload_n 0, 1) := by decide +kernel
theorem dX11_count_106 : decode cX11_count 106 = .ok (.getfield 47, 3) := by decide +kernel
theorem dX11_count_109 : decode cX11_count 109 = .ok (.invokevirtual 393, 3) := by decide +kernel
theorem dX11_count_112 : decode cX11_count 112 = .ok (.ireturn, 1) := by decide +kernel
theorem dX11_count_113 : decode cX11_count 113 = .ok (.aload_n 0, 1) := by decide +kernel
theorem dX11_count_114 : decode cX11_count 114 = .ok (.getfield 102, 3) := by decide +kernel
theorem dX11_count_117 : decode cX11_count 117 = .ok (.ireturn, 1) := by decide +kernel
theorem dX11_count_118 : decode cX11_count 118 = .ok (.aload_n 0, 1) := by decide +kernel
theorem dX11_count_119 : decode cX11_count 119 = .ok (.getfield 81, 3) := by decide +kernel
theorem dX11_count_122 : decode cX11_count 122 = .ok (.invokevirtual 394, 3) := by decide +kernel
theorem dX11_count_125 : decode cX11_count 125 = .ok (.ireturn, 1) := by decide +kernel
theorem dX11_count_126 : decode cX11_count 126 = .ok (.aload_n 0, 1) := by decide +kernel
theorem dX11_count_127 : decode cX11_count 127 = .ok (.getfield 47, 3) := by decide +kernel
theorem dX11_count_130 : decode cX11_count 130 = .ok (.invokevirtual 395, 3) := by decide +kernel
theorem dX11_count_133 : decode cX11_count 133 = .ok (.ireturn, 1) := by decide +kernel
theorem dX11_count_134 : decode cX11_count 134 = .ok (.aload_n 0, 1) := by decide +kernel
theorem dX11_count_135 : decode cX11_count 135 = .ok (.getfield 74, 3) := by decide +kernel
theorem dX11_count_138 : decode cX11_count 138 = .ok (.aload_n 0, 1) := by decide +kernel
theorem dX11_count_139 : decode cX11_count 139 = .ok (.getfield 98, 3) := by decide +kernel
theorem dX11_count_142 : decode cX11_count 142 = .ok (.iconst (-1), 1) := by decide +kernel
theorem dX11_count_143 : decode cX11_count 143 = .ok (.invokevirtual 308, 3) := by decide +kernel
theorem dX11_count_146 : decode cX11_count 146 = .ok (.pop, 1) := by decide +kernel
theorem dX11_count_147 : decode cX11_count 147 = .ok (.aload_n 0, 1) := by decide +kernel
theorem dX11_count_148 : decode cX11_count 148 = .ok (.getfield 74, 3) := by decide +kernel
theorem dX11_count_151 : decode cX11_count 151 = .ok (.invokevirtual 299, 3) := by decide +kernel
theorem dX11_count_154 : decode cX11_count 154 = .ok (.ireturn, 1) := by decide +kernel
theorem dX11_count_155 : decode cX11_count 155 = .ok (.iload_n 1, 1) := by decide +kernel
theorem dX11_count_156 : decode cX11_count 156 = .ok (.bipush 20, 2) := by decide +kernel
theorem dX11_count_158 : decode cX11_count 158 = .ok (.if_icmp .lt 23, 3) := by decide +kernel
theorem dX11_count_161 : decode cX11_count 161 = .ok (.iload_n 1, 1) := by decide +kernel
theorem dX11_count_162 : decode cX11_count 162 = .ok (.bipush 24, 2) := by decide +kernel
theorem dX11_count_164 : decode cX11_count 164 = .ok (.if_icmp .gt 17, 3) := by decide +kernel
theorem dX11_count_167 : decode cX11_count 167 = .ok (.aload_n 0, 1) := by decide +kernel
theorem dX11_count_168 : decode cX11_count 168 = .ok (.getfield 47, 3) := by decide +kernel
theorem dX11_count_171 : decode cX11_count 171 = .ok (.iload_n 1, 1) := by decide +kernel
theorem dX11_count_172 : decode cX11_count 172 = .ok (.bipush 20, 2) := by decide +kernel
theorem dX11_count_174 : decode cX11_count 174 = .ok (.isub, 1) := by decide +kernel
theorem dX11_count_175 : decode cX11_count 175 = .ok (.invokevirtual 398, 3) := by decide +kernel
theorem dX11_count_178 : decode cX11_count 178 = .ok (.goto 4, 3) := by decide +kernel
theorem dX11_count_181 : decode cX11_count 181 = .ok (.iconst (-1), 1) := by decide +kernel
theorem dX11_count_182 : decode cX11_count 182 = .ok (.ireturn, 1) := by decide +kernel
theorem dX11_differ_0 : decode cX11_differ 0 = .ok (.aload_n 0, 1) := by decide +kernel
theorem dX11_differ_1 : decode cX11_differ 1 = .ok (.getfield 26, 3) := by decide +kernel
theorem dX11_differ_4 : decode cX11_differ 4 = .ok (.iload_n 1, 1) := by decide +kernel
theorem dX11_differ_5 : decode cX11_differ 5 = .ok (.invokevirtual 113, 3) := by decide +kernel
theorem dX11_differ_8 : decode cX11_differ 8 = .ok (.ifCond .eq 17, 3) := by decide +kernel
theorem dX11_differ_25 : decode cX11_differ 25 = .ok (.iconst (-1), 1) := by decide +kernel
theorem dX11_differ_26 : decode cX11_differ 26 = .ok (.ireturn, 1) := by decide +kernel
theorem dX11_feed_0 : decode cX11_feed 0 = .ok (.aload_n 0, 1) := by decide +kernel
theorem dX11_feed_1 : decode cX11_feed 1 = .ok (.getfield 102, 3) := by decide +kernel
theorem dX11_feed_4 : decode cX11_feed 4 = .ok (.bipush 20, 2) := by decide +kernel
theorem dX11_feed_6 : decode cX11_feed 6 = .ok (.iadd, 1) := by decide +kernel
theorem dX11_feed_7 : decode cX11_feed 7 = .ok (.sipush 200, 3) := by decide +kernel
theorem dX11_feed_10 : decode cX11_feed 10 = .ok (.if_icmp .le 5, 3) := by decide +kernel
theorem dX11_feed_15 : decode cX11_feed 15 = .ok (.aload_n 0, 1) := by decide +kernel
theorem dX11_feed_16 : decode cX11_feed 16 = .ok (.iload_n 1, 1) := by decide +kernel
theorem dX11_feed_17 : decode cX11_feed 17 = .ok (.invokevirtual 105, 3) := by decide +kernel
theorem dX11_feed_20 : decode cX11_feed 20 = .ok (.aload_n 0, 1) := by decide +kernel
theorem dX11_feed_21 : decode cX11_feed 21 = .ok (.iload_n 2, 1) := by decide +kernel
theorem dX11_feed_22 : decode cX11_feed 22 = .ok (.invokevirtual 105, 3) := by decide +kernel
theorem dX11_feed_25 : decode cX11_feed 25 = .ok (.aload_n 0, 1) := by decide +kernel
theorem dX11_feed_26 : decode cX11_feed 26 = .ok (.iload_n 3, 1) := by decide +kernel
theorem dX11_feed_27 : decode cX11_feed 27 = .ok (.invokevirtual 105, 3) := by decide +kernel
theorem dX11_feed_30 : decode cX11_feed 30 = .ok (.aload_n 0, 1) := by decide +kernel
theorem dX11_feed_31 : decode cX11_feed 31 = .ok (.iload 4, 2) := by decide +kernel
theorem dX11_feed_33 : decode cX11_feed 33 = .ok (.invokevirtual 105, 3) := by decide +kernel
theorem dX11_feed_36 : decode cX11_feed 36 = .ok (.aload_n 0, 1) := by decide +kernel
theorem dX11_feed_37 : decode cX11_feed 37 = .ok (.iload 5, 2) := by decide +kernel
theorem dX11_feed_39 : decode cX11_feed 39 = .ok (.invokevirtual 105, 3) := by decide +kernel
theorem dX11_feed_42 : decode cX11_feed 42 = .ok (.aload_n 0, 1) := by decide +kernel
theorem dX11_feed_43 : decode cX11_feed 43 = .ok (.getfield 102, 3) := by decide +kernel
theorem dX11_feed_46 : decode cX11_feed 46 = .ok (.ireturn, 1) := by decide +kernel
theorem dX11_firstWrongByte_0 : decode cX11_firstWrongByte 0 = .ok (.iconst 0, 1) := by decide +kernel
theorem dX11_firstWrongByte_1 : decode cX11_firstWrongByte 1 = .ok (.istore_n 2, 1) := by decide +kernel
theorem dX11_firstWrongByte_2 : decode cX11_firstWrongByte 2 = .ok (.iconst 0, 1) := by decide +kernel
theorem dX11_firstWrongByte_3 : decode cX11_firstWrongByte 3 = .ok (.istore_n 3, 1) := by decide +kernel
theorem dX11_firstWrongByte_4 : decode cX11_firstWrongByte 4 = .ok (.iload_n 3, 1) := by decide +kernel
theorem dX11_firstWrongByte_5 : decode cX11_firstWrongByte 5 = .ok (.aload_n 0, 1) := by decide +kernel
theorem dX11_firstWrongByte_6 : decode cX11_firstWrongByte 6 = .ok (.getfield 26, 3) := by decide +kernel
theorem dX11_firstWrongByte_9 : decode cX11_firstWrongByte 9 = .ok (.invokevirtual 331, 3) := by decide +kernel
theorem dX11_firstWrongByte_12 : decode cX11_firstWrongByte 12 = .ok (.if_icmp .ge 69, 3) := by decide +kernel
theorem dX11_firstWrongByte_81 : decode cX11_firstWrongByte 81 = .ok (.iload_n 2, 1) := by decide +kernel
theorem dX11_firstWrongByte_82 : decode cX11_firstWrongByte 82 = .ok (.iload_n 1, 1) := by decide +kernel
theorem dX11_firstWrongByte_83 : decode cX11_firstWrongByte 83 = .ok (.if_icmp .ge 7, 3) := by decide +kernel
theorem dX11_firstWrongByte_90 : decode cX11_firstWrongByte 90 = .ok (.iconst (-1), 1) := by decide +kernel
theorem dX11_firstWrongByte_91 : decode cX11_firstWrongByte 91 = .ok (.ireturn, 1) := by decide +kernel
theorem dX11_fixed_0 : decode cX11_fixed 0 = .ok (.aload_n 0, 1) := by decide +kernel
theorem dX11_fixed_1 : decode cX11_fixed 1 = .ok (.getfield 47, 3) := by decide +kernel
theorem dX11_fixed_4 : decode cX11_fixed 4 = .ok (.iload_n 1, 1) := by decide +kernel
theorem dX11_fixed_5 : decode cX11_fixed 5 = .ok (.invokevirtual 286, 3) := by decide +kernel
theorem dX11_fixed_8 : decode cX11_fixed 8 = .ok (.ireturn, 1) := by decide +kernel
theorem dX11_fixedOn_0 : decode cX11_fixedOn 0 = .ok (.aload_n 0, 1) := by decide +kernel
theorem dX11_fixedOn_1 : decode cX11_fixedOn 1 = .ok (.iload_n 2, 1) := by decide +kernel
theorem dX11_fixedOn_2 : decode cX11_fixedOn 2 = .ok (.invokevirtual 289, 3) := by decide +kernel
theorem dX11_fixedOn_5 : decode cX11_fixedOn 5 = .ok (.ifCond .eq 15, 3) := by decide +kernel
theorem dX11_fixedOn_8 : decode cX11_fixedOn 8 = .ok (.aload_n 0, 1) := by decide +kernel
theorem dX11_fixedOn_9 : decode cX11_fixedOn 9 = .ok (.getfield 47, 3) := by decide +kernel
theorem dX11_fixedOn_12 : decode cX11_fixedOn 12 = .ok (.iload_n 1, 1) := by decide +kernel
theorem dX11_fixedOn_13 : decode cX11_fixedOn 13 = .ok (.iload_n 2, 1) := by decide +kernel
theorem dX11_fixedOn_14 : decode cX11_fixedOn 14 = .ok (.invokevirtual 292, 3) := by decide +kernel
theorem dX11_fixedOn_17 : decode cX11_fixedOn 17 = .ok (.goto 4, 3) := by decide +kernel
theorem dX11_fixedOn_20 : decode cX11_fixedOn 20 = .ok (.iconst (-1), 1) := by decide +kernel
theorem dX11_fixedOn_21 : decode cX11_fixedOn 21 = .ok (.ireturn, 1) := by decide +kernel
theorem dX11_holds_0 : decode cX11_holds 0 = .ok (.aload_n 0, 1) := by decide +kernel
theorem dX11_holds_1 : decode cX11_holds 1 = .ok (.getfield 40, 3) := by decide +kernel
theorem dX11_holds_4 : decode cX11_holds 4 = .ok (.iload_n 1, 1) := by decide +kernel
theorem dX11_holds_5 : decode cX11_holds 5 = .ok (.iload_n 2, 1) := by decide +kernel
theorem dX11_holds_6 : decode cX11_holds 6 = .ok (.invokevirtual 182, 3) := by decide +kernel
theorem dX11_holds_9 : decode cX11_holds 9 = .ok (.ifCond .eq 22, 3) := by decide +kernel
theorem dX11_holds_31 : decode cX11_holds 31 = .ok (.iconst (-1), 1) := by decide +kernel
theorem dX11_holds_32 : decode cX11_holds 32 = .ok (.ireturn, 1) := by decide +kernel
theorem dX11_judge_0 : decode cX11_judge 0 = .ok (.aload_n 0, 1) := by decide +kernel
theorem dX11_judge_1 : decode cX11_judge 1 = .ok (.getfield 90, 3) := by decide +kernel
theorem dX11_judge_4 : decode cX11_judge 4 = .ok (.iload_n 1, 1) := by decide +kernel
theorem dX11_judge_5 : decode cX11_judge 5 = .ok (.invokevirtual 376, 3) := by decide +kernel
theorem dX11_judge_8 : decode cX11_judge 8 = .ok (.ireturn, 1) := by decide +kernel
theorem dX11_line_0 : decode cX11_line 0 = .ok (.iconst 0, 1) := by decide +kernel
theorem dX11_line_1 : decode cX11_line 1 = .ok (.istore_n 2, 1) := by decide +kernel
theorem dX11_line_2 : decode cX11_line 2 = .ok (.iconst 0, 1) := by decide +kernel
theorem dX11_line_3 : decode cX11_line 3 = .ok (.istore_n 3, 1) := by decide +kernel
theorem dX11_line_4 : decode cX11_line 4 = .ok (.iload_n 3, 1) := by decide +kernel
theorem dX11_line_5 : decode cX11_line 5 = .ok (.aload_n 0, 1) := by decide +kernel
theorem dX11_line_6 : decode cX11_line 6 = .ok (.getfield 26, 3) := by decide +kernel
theorem dX11_line_9 : decode cX11_line 9 = .ok (.invokevirtual 331, 3) := by decide +kernel
theorem dX11_line_12 : decode cX11_line 12 = .ok (.if_icmp .ge 61, 3) := by decide +kernel
theorem dX11_line_73 : decode cX11_line 73 = .ok (.iconst (-1), 1) := by decide +kernel
theorem dX11_line_74 : decode cX11_line 74 = .ok (.ireturn, 1) := by decide +kernel
theorem dX11_look_0 : decode cX11_look 0 = .ok (.aload_n 0, 1) := by decide +kernel
theorem dX11_look_1 : decode cX11_look 1 = .ok (.getfield 47, 3) := by decide +kernel
theorem dX11_look_4 : decode cX11_look 4 = .ok (.iload_n 1, 1) := by decide +kernel
theorem dX11_look_5 : decode cX11_look 5 = .ok (.invokevirtual 240, 3) := by decide +kernel
theorem dX11_look_8 : decode cX11_look 8 = .ok (.astore_n 3, 1) := by decide +kernel
theorem dX11_look_9 : decode cX11_look 9 = .ok (.aload_n 3, 1) := by decide +kernel
theorem dX11_look_10 : decode cX11_look 10 = .ok (.ifnonnull 7, 3) := by decide +kernel
theorem dX11_look_13 : decode cX11_look 13 = .ok (.iconst (-1), 1) := by decide +kernel
theorem dX11_look_14 : decode cX11_look 14 = .ok (.goto 8, 3) := by decide +kernel
theorem dX11_look_22 : decode cX11_look 22 = .ok (.ireturn, 1) := by decide +kernel
theorem dX11_missed_0 : decode cX11_missed 0 = .ok (.aload_n 0, 1) := by decide +kernel
theorem dX11_missed_1 : decode cX11_missed 1 = .ok (.getfield 26, 3) := by decide +kernel
theorem dX11_missed_4 : decode cX11_missed 4 = .ok (.iload_n 1, 1) := by decide +kernel
theorem dX11_missed_5 : decode cX11_missed 5 = .ok (.invokevirtual 113, 3) := by decide +kernel
theorem dX11_missed_8 : decode cX11_missed 8 = .ok (.ifCond .eq 14, 3) := by decide +kernel
theorem dX11_missed_22 : decode cX11_missed 22 = .ok (.iconst (-1), 1) := by decide +kernel
theorem dX11_missed_23 : decode cX11_missed 23 = .ok (.ireturn, 1) := by decide +kernel
theorem dX11_now_0 : decode cX11_now 0 = .ok (.iload_n 1, 1) := by decide +kernel
theorem dX11_now_1 : decode cX11_now 1 = .ok (.invokestatic 94, 3) := by decide +kernel
theorem dX11_now_4 : decode cX11_now 4 = .ok (.ifCond .eq 11, 3) := by decide +kernel
theorem dX11_now_7 : decode cX11_now 7 = .ok (.iload_n 1, 1) := by decide +kernel
theorem dX11_now_8 : decode cX11_now 8 = .ok (.aload_n 0, 1) := by decide +kernel
theorem dX11_now_9 : decode cX11_now 9 = .ok (.getfield 98, 3) := by decide +kernel
theorem dX11_now_12 : decode cX11_now 12 = .ok (.if_icmp .ge 5, 3) := by decide +kernel
theorem dX11_now_15 : decode cX11_now 15 = .ok (.iconst 0, 1) := by decide +kernel
theorem dX11_now_16 : decode cX11_now 16 = .ok (.ireturn, 1) := by decide +kernel
theorem dX11_now_17 : decode cX11_now 17 = .ok (.aload_n 0, 1) := by decide +kernel
theorem dX11_now_18 : decode cX11_now 18 = .ok (.iload_n 1, 1) := by decide +kernel
theorem dX11_now_19 : decode cX11_now 19 = .ok (.putfield 98, 3) := by decide +kernel
theorem dX11_now_22 : decode cX11_now 22 = .ok (.iconst 1, 1) := by decide +kernel
theorem dX11_now_23 : decode cX11_now 23 = .ok (.ireturn, 1) := by decide +kernel
theorem dX11_one_0 : decode cX11_one 0 = .ok (.aload_n 0, 1) := by decide +kernel
theorem dX11_one_1 : decode cX11_one 1 = .ok (.getfield 81, 3) := by decide +kernel
theorem dX11_one_4 : decode cX11_one 4 = .ok (.aload_n 0, 1) := by decide +kernel
theorem dX11_one_5 : decode cX11_one 5 = .ok (.getfield 98, 3) := by decide +kernel
theorem dX11_one_8 : decode cX11_one 8 = .ok (.invokevirtual 322, 3) := by decide +kernel
theorem dX11_one_11 : decode cX11_one 11 = .ok (.aload_n 0, 1) := by decide +kernel
theorem dX11_one_12 : decode cX11_one 12 = .ok (.getfield 81, 3) := by decide +kernel
theorem dX11_one_15 : decode cX11_one 15 = .ok (.invokevirtual 328, 3) := by decide +kernel
theorem dX11_one_18 : decode cX11_one 18 = .ok (.ireturn, 1) := by decide +kernel
theorem dX11_option_0 : decode cX11_option 0 = .ok (.iload_n 1, 1) := by decide +kernel
theorem dX11_option_1 : decode cX11_option 1 = .ok (.invokestatic 311, 3) := by decide +kernel
theorem dX11_option_4 : decode cX11_option 4 = .ok (.ifCond .eq 30, 3) := by decide +kernel
theorem dX11_option_7 : decode cX11_option 7 = .ok (.aload_n 0, 1) := by decide +kernel
theorem dX11_option_8 : decode cX11_option 8 = .ok (.getfield 19, 3) := by decide +kernel
theorem dX11_option_11 : decode cX11_option 11 = .ok (.iload_n 2, 1) := by decide +kernel
theorem dX11_option_12 : decode cX11_option 12 = .ok (.invokevirtual 139, 3) := by decide +kernel
theorem dX11_option_15 : decode cX11_option 15 = .ok (.ifCond .eq 19, 3) := by decide +kernel
theorem dX11_option_34 : decode cX11_option 34 = .ok (.iconst 0, 1) := by decide +kernel
theorem dX11_option_35 : decode cX11_option 35 = .ok (.ireturn, 1) := by decide +kernel
theorem dX11_plan_0 : decode cX11_plan 0 = .ok (.aload_n 0, 1) := by decide +kernel
theorem dX11_plan_1 : decode cX11_plan 1 = .ok (.getfield 90, 3) := by decide +kernel
theorem dX11_plan_4 : decode cX11_plan 4 = .ok (.iload_n 1, 1) := by decide +kernel
theorem dX11_plan_5 : decode cX11_plan 5 = .ok (.invokevirtual 373, 3) := by decide +kernel
theorem dX11_plan_8 : decode cX11_plan 8 = .ok (.ireturn, 1) := by decide +kernel
theorem dX11_printed_0 : decode cX11_printed 0 = .ok (.aload_n 0, 1) := by decide +kernel
theorem dX11_printed_1 : decode cX11_printed 1 = .ok (.getfield 47, 3) := by decide +kernel
theorem dX11_printed_4 : decode cX11_printed 4 = .ok (.iload_n 2, 1) := by decide +kernel
theorem dX11_printed_5 : decode cX11_printed 5 = .ok (.invokevirtual 334, 3) := by decide +kernel
theorem dX11_printed_8 : decode cX11_printed 8 = .ok (.astore 4, 2) := by decide +kernel
theorem dX11_printed_10 : decode cX11_printed 10 = .ok (.aload 4, 2) := by decide +kernel
theorem dX11_printed_12 : decode cX11_printed 12 = .ok (.ifnull 14, 3) := by decide +kernel
theorem dX11_printed_26 : decode cX11_printed 26 = .ok (.iconst (-1), 1) := by decide +kernel
theorem dX11_printed_27 : decode cX11_printed 27 = .ok (.ireturn, 1) := by decide +kernel
theorem dX11_quarrel_0 : decode cX11_quarrel 0 = .ok (.aload_n 0, 1) := by decide +kernel
theorem dX11_quarrel_1 : decode cX11_quarrel 1 = .ok (.getfield 26, 3) := by decide +kernel
theorem dX11_quarrel_4 : decode cX11_quarrel 4 = .ok (.iload_n 1, 1) := by decide +kernel
theorem dX11_quarrel_5 : decode cX11_quarrel 5 = .ok (.invokevirtual 113, 3) := by decide +kernel
theorem dX11_quarrel_8 : decode cX11_quarrel 8 = .ok (.ifCond .eq 16, 3) := by decide +kernel
theorem dX11_quarrel_24 : decode cX11_quarrel 24 = .ok (.iconst (-1), 1) := by decide +kernel
theorem dX11_quarrel_25 : decode cX11_quarrel 25 = .ok (.ireturn, 1) := by decide +kernel
theorem dX11_reads_0 : decode cX11_reads 0 = .ok (.iload_n 1, 1) := by decide +kernel
theorem dX11_reads_1 : decode cX11_reads 1 = .ok (.ifCond .lt 30, 3) := by decide +kernel
theorem dX11_reads_4 : decode cX11_reads 4 = .ok (.iload_n 1, 1) := by decide +kernel
theorem dX11_reads_5 : decode cX11_reads 5 = .ok (.bipush 9, 2) := by decide +kernel
theorem dX11_reads_7 : decode cX11_reads 7 = .ok (.if_icmp .gt 24, 3) := by decide +kernel
theorem dX11_reads_10 : decode cX11_reads 10 = .ok (.aload_n 0, 1) := by decide +kernel
theorem dX11_reads_11 : decode cX11_reads 11 = .ok (.getfield 26, 3) := by decide +kernel
theorem dX11_reads_14 : decode cX11_reads 14 = .ok (.iload_n 2, 1) := by decide +kernel
theorem dX11_reads_15 : decode cX11_reads 15 = .ok (.invokevirtual 113, 3) := by decide +kernel
theorem dX11_reads_18 : decode cX11_reads 18 = .ok (.ifCond .eq 13, 3) := by decide +kernel
theorem dX11_reads_31 : decode cX11_reads 31 = .ok (.iconst 0, 1) := by decide +kernel
theorem dX11_reads_32 : decode cX11_reads 32 = .ok (.ireturn, 1) := by decide +kernel
theorem dX11_render_0 : decode cX11_render 0 = .ok (.aload_n 0, 1) := by decide +kernel
theorem dX11_render_1 : decode cX11_render 1 = .ok (.getfield 33, 3) := by decide +kernel
theorem dX11_render_4 : decode cX11_render 4 = .ok (.iload_n 1, 1) := by decide +kernel
theorem dX11_render_5 : decode cX11_render 5 = .ok (.invokevirtual 218, 3) := by decide +kernel
theorem dX11_render_8 : decode cX11_render 8 = .ok (.ifCond .eq 35, 3) := by decide +kernel
theorem dX11_render_43 : decode cX11_render 43 = .ok (.iconst (-1), 1) := by decide +kernel
theorem dX11_render_44 : decode cX11_render 44 = .ok (.ireturn, 1) := by decide +kernel
theorem dX11_rules_0 : decode cX11_rules 0 = .ok (.iload_n 1, 1) := by decide +kernel
theorem dX11_rules_1 : decode cX11_rules 1 = .ok (.iconst (-1), 1) := by decide +kernel
theorem dX11_rules_2 : decode cX11_rules 2 = .ok (.if_icmp .eq 16, 3) := by decide +kernel
theorem dX11_rules_5 : decode cX11_rules 5 = .ok (.aload_n 0, 1) := by decide +kernel
theorem dX11_rules_6 : decode cX11_rules 6 = .ok (.getfield 33, 3) := by decide +kernel
theorem dX11_rules_9 : decode cX11_rules 9 = .ok (.iload_n 1, 1) := by decide +kernel
theorem dX11_rules_10 : decode cX11_rules 10 = .ok (.invokevirtual 156, 3) := by decide +kernel
theorem dX11_rules_13 : decode cX11_rules 13 = .ok (.ifCond .ne 5, 3) := by decide +kernel
theorem dX11_rules_16 : decode cX11_rules 16 = .ok (.iconst (-1), 1) := by decide +kernel
theorem dX11_rules_17 : decode cX11_rules 17 = .ok (.ireturn, 1) := by decide +kernel
theorem dX11_rules_18 : decode cX11_rules 18 = .ok (.iload_n 2, 1) := by decide +kernel
theorem dX11_rules_19 : decode cX11_rules 19 = .ok (.invokestatic 94, 3) := by decide +kernel
theorem dX11_rules_22 : decode cX11_rules 22 = .ok (.ifCond .eq 15, 3) := by decide +kernel
theorem dX11_rules_25 : decode cX11_rules 25 = .ok (.iload_n 3, 1) := by decide +kernel
theorem dX11_rules_26 : decode cX11_rules 26 = .ok (.invokestatic 94, 3) := by decide +kernel
theorem dX11_rules_29 : decode cX11_rules 29 = .ok (.ifCond .eq 8, 3) := by decide +kernel
theorem dX11_rules_32 : decode cX11_rules 32 = .ok (.iload_n 3, 1) := by decide +kernel
theorem dX11_rules_33 : decode cX11_rules 33 = .ok (.iload_n 2, 1) := by decide +kernel
theorem dX11_rules_34 : decode cX11_rules 34 = .ok (.if_icmp .ge 5, 3) := by decide +kernel
theorem dX11_rules_37 : decode cX11_rules 37 = .ok (.iconst (-1), 1) := by decide +kernel
theorem dX11_rules_38 : decode cX11_rules 38 = .ok (.ireturn, 1) := by decide +kernel
theorem dX11_rules_39 : decode cX11_rules 39 = .ok (.aload_n 0, 1) := by decide +kernel
theorem dX11_rules_40 : decode cX11_rules 40 = .ok (.getfield 40, 3) := by decide +kernel
theorem dX11_rules_43 : decode cX11_rules 43 = .ok (.invokevirtual 163, 3) := by decide +kernel
theorem dX11_rules_46 : decode cX11_rules 46 = .ok (.ifCond .ne 15, 3) := by decide +kernel
theorem dX11_rules_49 : decode cX11_rules 49 = .ok (.aload_n 0, 1) := by decide +kernel
theorem dX11_rules_50 : decode cX11_rules 50 = .ok (.iload 4, 2) := by decide +kernel
theorem dX11_rules_52 : decode cX11_rules 52 = .ok (.sipush 160, 3) := by decide +kernel
theorem dX11_rules_55 : decode cX11_rules 55 = .ok (.invokevirtual 119, 3) := by decide +kernel
theorem dX11_rules_58 : decode cX11_rules 58 = .ok (.ifCond .ne 5, 3) := by decide +kernel
theorem dX11_rules_61 : decode cX11_rules 61 = .ok (.iconst (-1), 1) := by decide +kernel
theorem dX11_rules_62 : decode cX11_rules 62 = .ok (.ireturn, 1) := by decide +kernel
theorem dX11_scholar_0 : decode cX11_scholar 0 = .ok (.aload_n 0, 1) := by decide +kernel
theorem dX11_scholar_1 : decode cX11_scholar 1 = .ok (.getfield 33, 3) := by decide +kernel
theorem dX11_scholar_4 : decode cX11_scholar 4 = .ok (.iload_n 1, 1) := by decide +kernel
theorem dX11_scholar_5 : decode cX11_scholar 5 = .ok (.invokevirtual 156, 3) := by decide +kernel
theorem dX11_scholar_8 : decode cX11_scholar 8 = .ok (.ifCond .eq 15, 3) := by decide +kernel
theorem dX11_scholar_23 : decode cX11_scholar 23 = .ok (.iconst (-1), 1) := by decide +kernel
theorem dX11_scholar_24 : decode cX11_scholar 24 = .ok (.ireturn, 1) := by decide +kernel
theorem dX11_source_0 : decode cX11_source 0 = .ok (.aload_n 0, 1) := by decide +kernel
theorem dX11_source_1 : decode cX11_source 1 = .ok (.getfield 26, 3) := by decide +kernel
theorem dX11_source_4 : decode cX11_source 4 = .ok (.iload_n 1, 1) := by decide +kernel
theorem dX11_source_5 : decode cX11_source 5 = .ok (.invokevirtual 113, 3) := by decide +kernel
theorem dX11_source_8 : decode cX11_source 8 = .ok (.ifCond .eq 28, 3) := by decide +kernel
theorem dX11_source_36 : decode cX11_source 36 = .ok (.iconst 0, 1) := by decide +kernel
theorem dX11_source_37 : decode cX11_source 37 = .ok (.ireturn, 1) := by decide +kernel
theorem dX11_spell_0 : decode cX11_spell 0 = .ok (.iload_n 1, 1) := by decide +kernel
theorem dX11_spell_1 : decode cX11_spell 1 = .ok (.invokestatic 136, 3) := by decide +kernel
theorem dX11_spell_4 : decode cX11_spell 4 = .ok (.ifCond .eq 14, 3) := by decide +kernel
theorem dX11_spell_7 : decode cX11_spell 7 = .ok (.aload_n 0, 1) := by decide +kernel
theorem dX11_spell_8 : decode cX11_spell 8 = .ok (.getfield 19, 3) := by decide +kernel
theorem dX11_spell_11 : decode cX11_spell 11 = .ok (.iload_n 2, 1) := by decide +kernel
theorem dX11_spell_12 : decode cX11_spell 12 = .ok (.invokevirtual 139, 3) := by decide +kernel
theorem dX11_spell_15 : decode cX11_spell 15 = .ok (.ifCond .ne 5, 3) := by decide +kernel
theorem dX11_spell_18 : decode cX11_spell 18 = .ok (.iconst 0, 1) := by decide +kernel
theorem dX11_spell_19 : decode cX11_spell 19 = .ok (.ireturn, 1) := by decide +kernel
theorem dX11_syllables_0 : decode cX11_syllables 0 = .ok (.aload_n 0, 1) := by decide +kernel
theorem dX11_syllables_1 : decode cX11_syllables 1 = .ok (.getfield 19, 3) := by decide +kernel
theorem dX11_syllables_4 : decode cX11_syllables 4 = .ok (.iload_n 1, 1) := by decide +kernel
theorem dX11_syllables_5 : decode cX11_syllables 5 = .ok (.invokevirtual 139, 3) := by decide +kernel
theorem dX11_syllables_8 : decode cX11_syllables 8 = .ok (.ifCond .eq 14, 3) := by decide +kernel
theorem dX11_syllables_22 : decode cX11_syllables 22 = .ok (.iconst (-1), 1) := by decide +kernel
theorem dX11_syllables_23 : decode cX11_syllables 23 = .ok (.ireturn, 1) := by decide +kernel
theorem dX11_token_0 : decode cX11_token 0 = .ok (.aload_n 0, 1) := by decide +kernel
theorem dX11_token_1 : decode cX11_token 1 = .ok (.getfield 26, 3) := by decide +kernel
theorem dX11_token_4 : decode cX11_token 4 = .ok (.iload_n 1, 1) := by decide +kernel
theorem dX11_token_5 : decode cX11_token 5 = .ok (.invokevirtual 113, 3) := by decide +kernel
theorem dX11_token_8 : decode cX11_token 8 = .ok (.ifCond .eq 10, 3) := by decide +kernel
theorem dX11_token_18 : decode cX11_token 18 = .ok (.iconst (-1), 1) := by decide +kernel
theorem dX11_token_19 : decode cX11_token 19 = .ok (.ireturn, 1) := by decide +kernel
theorem dX11_unlike_0 : decode cX11_unlike 0 = .ok (.iload_n 1, 1) := by decide +kernel
theorem dX11_unlike_1 : decode cX11_unlike 1 = .ok (.ifCond .lt 12, 3) := by decide +kernel
theorem dX11_unlike_4 : decode cX11_unlike 4 = .ok (.iload_n 2, 1) := by decide +kernel
theorem dX11_unlike_5 : decode cX11_unlike 5 = .ok (.ifCond .lt 8, 3) := by decide +kernel
theorem dX11_unlike_8 : decode cX11_unlike 8 = .ok (.iload_n 2, 1) := by decide +kernel
theorem dX11_unlike_9 : decode cX11_unlike 9 = .ok (.iconst 3, 1) := by decide +kernel
theorem dX11_unlike_10 : decode cX11_unlike 10 = .ok (.if_icmp .le 5, 3) := by decide +kernel
theorem dX11_unlike_13 : decode cX11_unlike 13 = .ok (.iconst (-1), 1) := by decide +kernel
theorem dX11_unlike_14 : decode cX11_unlike 14 = .ok (.ireturn, 1) := by decide +kernel
theorem dX11_unlike_15 : decode cX11_unlike 15 = .ok (.aload_n 0, 1) := by decide +kernel
theorem dX11_unlike_16 : decode cX11_unlike 16 = .ok (.getfield 74, 3) := by decide +kernel
theorem dX11_unlike_19 : decode cX11_unlike 19 = .ok (.aload_n 0, 1) := by decide +kernel
theorem dX11_unlike_20 : decode cX11_unlike 20 = .ok (.getfield 98, 3) := by decide +kernel
theorem dX11_unlike_23 : decode cX11_unlike 23 = .ok (.iload_n 1, 1) := by decide +kernel
theorem dX11_unlike_24 : decode cX11_unlike 24 = .ok (.invokevirtual 308, 3) := by decide +kernel
theorem dX11_unlike_27 : decode cX11_unlike 27 = .ok (.ifCond .eq 14, 3) := by decide +kernel
theorem dX11_unlike_41 : decode cX11_unlike 41 = .ok (.iconst (-1), 1) := by decide +kernel
theorem dX11_unlike_42 : decode cX11_unlike 42 = .ok (.ireturn, 1) := by decide +kernel
theorem dX11_verse_0 : decode cX11_verse 0 = .ok (.iload_n 1, 1) := by decide +kernel
theorem dX11_verse_1 : decode cX11_verse 1 = .ok (.ifCond .lt 19, 3) := by decide +kernel
theorem dX11_verse_4 : decode cX11_verse 4 = .ok (.iload_n 1, 1) := by decide +kernel
theorem dX11_verse_5 : decode cX11_verse 5 = .ok (.bipush 7, 2) := by decide +kernel
theorem dX11_verse_7 : decode cX11_verse 7 = .ok (.if_icmp .gt 13, 3) := by decide +kernel
theorem dX11_verse_10 : decode cX11_verse 10 = .ok (.iload_n 2, 1) := by decide +kernel
theorem dX11_verse_11 : decode cX11_verse 11 = .ok (.ifCond .lt 9, 3) := by decide +kernel
theorem dX11_verse_14 : decode cX11_verse 14 = .ok (.iload_n 2, 1) := by decide +kernel
theorem dX11_verse_15 : decode cX11_verse 15 = .ok (.bipush 40, 2) := by decide +kernel
theorem dX11_verse_17 : decode cX11_verse 17 = .ok (.if_icmp .le 5, 3) := by decide +kernel
theorem dX11_verse_20 : decode cX11_verse 20 = .ok (.iconst (-1), 1) := by decide +kernel
theorem dX11_verse_21 : decode cX11_verse 21 = .ok (.ireturn, 1) := by decide +kernel
theorem dX11_verse_22 : decode cX11_verse 22 = .ok (.aload_n 0, 1) := by decide +kernel
theorem dX11_verse_23 : decode cX11_verse 23 = .ok (.getfield 26, 3) := by decide +kernel
theorem dX11_verse_26 : decode cX11_verse 26 = .ok (.iload_n 1, 1) := by decide +kernel
theorem dX11_verse_27 : decode cX11_verse 27 = .ok (.iload_n 2, 1) := by decide +kernel
theorem dX11_verse_28 : decode cX11_verse 28 = .ok (.invokevirtual 109, 3) := by decide +kernel
theorem dX11_verse_31 : decode cX11_verse 31 = .ok (.ireturn, 1) := by decide +kernel
theorem dX11_voids_0 : decode cX11_voids 0 = .ok (.aload_n 0, 1) := by decide +kernel
theorem dX11_voids_1 : decode cX11_voids 1 = .ok (.getfield 33, 3) := by decide +kernel
theorem dX11_voids_4 : decode cX11_voids 4 = .ok (.iload_n 1, 1) := by decide +kernel
theorem dX11_voids_5 : decode cX11_voids 5 = .ok (.invokevirtual 218, 3) := by decide +kernel
theorem dX11_voids_8 : decode cX11_voids 8 = .ok (.ifCond .eq 14, 3) := by decide +kernel
theorem dX11_voids_22 : decode cX11_voids 22 = .ok (.iconst (-1), 1) := by decide +kernel
theorem dX11_voids_23 : decode cX11_voids 23 = .ok (.ireturn, 1) := by decide +kernel
theorem dX11_vote_0 : decode cX11_vote 0 = .ok (.aload_n 0, 1) := by decide +kernel
theorem dX11_vote_1 : decode cX11_vote 1 = .ok (.getfield 47, 3) := by decide +kernel
theorem dX11_vote_4 : decode cX11_vote 4 = .ok (.iload_n 2, 1) := by decide +kernel
theorem dX11_vote_5 : decode cX11_vote 5 = .ok (.invokevirtual 240, 3) := by decide +kernel
theorem dX11_vote_8 : decode cX11_vote 8 = .ok (.astore 4, 2) := by decide +kernel
theorem dX11_vote_10 : decode cX11_vote 10 = .ok (.aload 4, 2) := by decide +kernel
theorem dX11_vote_12 : decode cX11_vote 12 = .ok (.ifnull 22, 3) := by decide +kernel
theorem dX11_vote_34 : decode cX11_vote 34 = .ok (.iconst 0, 1) := by decide +kernel
theorem dX11_vote_35 : decode cX11_vote 35 = .ok (.ireturn, 1) := by decide +kernel
theorem dX11_word_0 : decode cX11_word 0 = .ok (.aload_n 0, 1) := by decide +kernel
theorem dX11_word_1 : decode cX11_word 1 = .ok (.iload_n 1, 1) := by decide +kernel
theorem dX11_word_2 : decode cX11_word 2 = .ok (.bipush 12, 2) := by decide +kernel
theorem dX11_word_4 : decode cX11_word 4 = .ok (.invokevirtual 119, 3) := by decide +kernel
theorem dX11_word_7 : decode cX11_word 7 = .ok (.ifCond .eq 11, 3) := by decide +kernel
theorem dX11_word_18 : decode cX11_word 18 = .ok (.iconst (-1), 1) := by decide +kernel
theorem dX11_word_19 : decode cX11_word 19 = .ok (.ireturn, 1) := by decide +kernel
set_option maxHeartbeats 4000000 in
set_option maxRecDepth 100000 in
theorem x_11_now (l : Launch) (D : va_G) (ct : Nat → ClassId) (tN : Nat) (ad : Nat → Nat) (iv : Nat → Int32) (ia : Nat → Nat → Int32) (la : Nat → Nat → Int64) (pt : Nat → Option Nat) (ra : Nat → Nat → Option Nat) (R : va_W) (p0 : Int32) (h1 : (iv 1).toInt = 0) : MI l D (TY ct) tN yX11_now cX11_now 2 (some .boolean) ({ frames := 1, cells := 0, slots := 0, locals := 20 } : Room) [.ref (ad 0), .int p0] (XW ct ad iv ia la pt ra R) (fun (v : Int32) (u : va_W) => (0 ≤ p0.toInt ∧ p0.toInt ≤ 3999 ∧ v.toInt = 1) ∨ ((p0.toInt < 0 ∨ 3999 < p0.toInt) ∧ v.toInt = 0)) (fun u => u) 0 0 := by
  intro sz
  refine Met.ofE (Qc := fun A => va_Qi (fun (v : Int32) (u : va_W) => (0 ≤ p0.toInt ∧ p0.toInt ≤ 3999 ∧ v.toInt = 1) ∨ ((p0.toInt < 0 ∨ 3999 < p0.toInt) ∧ v.toInt = 0)) (BW D A (fun u => u)) A) (by decide) (Nat.le_of_ble_eq_true rfl) ?_
  intro p e s m args below meth c A ls hsz E hr hlk hnm B hl
  have hl : lv_has ls 2 [(0, .ref (ad 0)), (1, .int p0)] := hl
  refine lv_iload_n E.1.1 E.1.2.1 dX11_now_0 rfl (lv_at hl 1 rfl) ?_
  refine call_SI (kn := 1) E B (x_11_isDay l D ct tN ad iv ia la pt ra R  p0 ) (good_S mw_432 mw_433 mw_1 mw_434) (by decide +kernel) rfl rfl rfl ⟨by decide, by decide⟩ rfl hl (Nat.le_of_ble_eq_true rfl) dX11_now_1 ⟨Nat.le_of_ble_eq_true rfl, Nat.le_of_ble_eq_true rfl⟩ (fun v_1 u_2 H locs w_3 B => ?_)
  have w_3 : (0 ≤ p0.toInt ∧ p0.toInt ≤ 3999 ∧ v_1.toInt = 1) ∨ ((p0.toInt < 0 ∨ 3999 < p0.toInt) ∧ v_1.toInt = 0) := w_3
  have B : Hp D A s.heap (XW ct ad iv ia la pt ra R) H locs := B
  refine at_n (n := 4) (k1 := 0) (k2 := 0) rfl rfl rfl ?_
  refine b_eq (tgt := 15) E rfl dX11_now_4 (by decide) (fun c_4 => ?_) (fun c_4 => ?_)
  · skip
    refine lv_iconst (v := 0) E.1.1 E.1.2.1 dX11_now_15 (by decide) ?_
    have r_5 : (0 : Int32).toInt = 0 := tI_0
    exact ret_I (u := _) E hr hlk (narrow_z (by omega)) B (by omega) dX11_now_16
  · skip
    refine lv_iload_n E.1.1 E.1.2.1 dX11_now_7 rfl (lv_at hl 1 rfl) ?_
    refine lv_aload_n E.1.1 E.1.2.1 dX11_now_8 rfl (lv_at hl 0 rfl) ?_
    refine row_get (v := .int (iv 1)) E B iX11 rfl 13 (by decide) mw_398 0 rfl rfl dX11_now_9 ?_
    refine c_ge (tgt := 17) E rfl h1 dX11_now_12 (by decide) (fun c_6 => ?_) (fun c_6 => ?_)
    · skip
      refine lv_aload_n E.1.1 E.1.2.1 dX11_now_17 rfl (lv_at hl 0 rfl) ?_
      refine lv_iload_n E.1.1 E.1.2.1 dX11_now_18 rfl (lv_at hl 1 rfl) ?_
      refine row_put E B iX11 rfl tyX11 tyX11_ok nmX11 13 (by decide) mw_398 rfl 0 rfl rfl rfl (Nat.le_of_ble_eq_true rfl) dX11_now_19 (fun H locs B => ?_)
      have B := Hp.eq (sx_iv_1 ct ad iv ia la pt ra R p0) B
      have h_8 : ((va_up iv 1 p0) 1).toInt = p0.toInt := rfl
      generalize va_up iv 1 p0 = iv_7 at B h_8
      refine lv_iconst (v := 1) E.1.1 E.1.2.1 dX11_now_22 (by decide) ?_
      have r_9 : (1 : Int32).toInt = 1 := tI_1
      exact ret_I (u := _) E hr hlk (narrow_z (by omega)) B (by omega) dX11_now_23
    · skip
      refine lv_iconst (v := 0) E.1.1 E.1.2.1 dX11_now_15 (by decide) ?_
      have r_10 : (0 : Int32).toInt = 0 := tI_0
      exact ret_I (u := _) E hr hlk (narrow_z (by omega)) B (by omega) dX11_now_16
set_option maxHeartbeats 4000000 in
set_option maxRecDepth 100000 in
theorem x_11_feed (l : Launch) (D : va_G) (ct : Nat → ClassId) (tN : Nat) (ad : Nat → Nat) (iv : Nat → Int32) (ia : Nat → Nat → Int32) (la : Nat → Nat → Int64) (pt : Nat → Option Nat) (ra : Nat → Nat → Option Nat) (R : va_W) (p0 : Int32) (p1 : Int32) (p2 : Int32) (p3 : Int32) (p4 : Int32) (h0 : (iv 0).toInt = 0) : MI l D (TY ct) tN yX11_feed cX11_feed 6 (some .int) ({ frames := 1, cells := 0, slots := 0, locals := 22 } : Room) [.ref (ad 0), .int p0, .int p1, .int p2, .int p3, .int p4] (XW ct ad iv ia la pt ra R) (fun (v : Int32) (u : va_W) => v.toInt = 20) (fun u => u) 0 0 := by
  intro sz
  refine Met.ofE (Qc := fun A => va_Qi (fun (v : Int32) (u : va_W) => v.toInt = 20) (BW D A (fun u => u)) A) (by decide) (Nat.le_of_ble_eq_true rfl) ?_
  intro p e s m args below meth c A ls hsz E hr hlk hnm B hl
  have hl : lv_has ls 6 [(0, .ref (ad 0)), (1, .int p0), (2, .int p1), (3, .int p2), (4, .int p3), (5, .int p4)] := hl
  refine lv_aload_n E.1.1 E.1.2.1 dX11_feed_0 rfl (lv_at hl 0 rfl) ?_
  refine row_get (v := .int (iv 0)) E B iX11 rfl 12 (by decide) mw_397 0 rfl rfl dX11_feed_1 ?_
  refine lv_bipush (v := 20) E.1.1 E.1.2.1 dX11_feed_4 (by decide) ?_
  refine i_add E h0 tI_20 (by omega) (by omega) dX11_feed_6 (fun z_1 ez_1 => ?_)
  have ez_1 : z_1.toInt = 20 := by omega
  refine lv_sipush (v := 200) E.1.1 E.1.2.1 dX11_feed_7 (by decide) ?_
  refine c_le (tgt := 15) E ez_1 tI_200 dX11_feed_10 (by decide) (fun c_2 => ?_) (fun c_2 => ?_)
  · skip
    refine lv_aload_n E.1.1 E.1.2.1 dX11_feed_15 rfl (lv_at hl 0 rfl) ?_
    refine lv_iload_n E.1.1 E.1.2.1 dX11_feed_16 rfl (lv_at hl 1 rfl) ?_
    refine call_VV (kn := 1) E B (x_11_putFour l D ct tN ad iv ia la pt ra R 0 p0 h0 (by omega)) (good_V mw_439 mw_441 ms_0 mw_1 mw_442) 0 rfl rfl ⟨rfl, by decide +kernel⟩ rfl rfl rfl ⟨by decide, by decide⟩ rfl hl (Nat.le_of_ble_eq_true rfl) dX11_feed_17 ⟨Nat.le_of_ble_eq_true rfl, Nat.le_of_ble_eq_true rfl⟩ (fun u_4 H locs w_5 B => ?_)
    obtain ⟨iv_6, ia_7⟩ := u_4
    have h_8 := w_5
    have h_8 : (iv_6 0).toInt = 4 := by have h0 := h_8; dsimp only at h0; omega
    have B : Hp D A s.heap (XW ct ad iv_6 ia_7 la pt ra R) H locs := B
    refine at_n (n := 20) (k1 := 0) (k2 := 0) rfl rfl rfl ?_
    refine lv_aload_n E.1.1 E.1.2.1 dX11_feed_20 rfl (lv_at hl 0 rfl) ?_
    refine lv_iload_n E.1.1 E.1.2.1 dX11_feed_21 rfl (lv_at hl 2 rfl) ?_
    refine call_VV (kn := 1) E B (x_11_putFour l D ct tN ad iv_6 ia_7 la pt ra R 4 p1 h_8 (by omega)) (good_V mw_439 mw_441 ms_0 mw_1 mw_442) 0 rfl rfl ⟨rfl, by decide +kernel⟩ rfl rfl rfl ⟨by decide, by decide⟩ rfl hl (Nat.le_of_ble_eq_true rfl) dX11_feed_22 ⟨Nat.le_of_ble_eq_true rfl, Nat.le_of_ble_eq_true rfl⟩ (fun u_10 H locs w_11 B => ?_)
    obtain ⟨iv_12, ia_13⟩ := u_10
    have h_14 := w_11
    have h_14 : (iv_12 0).toInt = 8 := by have h0 := h_14; dsimp only at h0; omega
    have B : Hp D A s.heap (XW ct ad iv_12 ia_13 la pt ra R) H locs := B
    refine at_n (n := 25) (k1 := 0) (k2 := 0) rfl rfl rfl ?_
    refine lv_aload_n E.1.1 E.1.2.1 dX11_feed_25 rfl (lv_at hl 0 rfl) ?_
    refine lv_iload_n E.1.1 E.1.2.1 dX11_feed_26 rfl (lv_at hl 3 rfl) ?_
    refine call_VV (kn := 1) E B (x_11_putFour l D ct tN ad iv_12 ia_13 la pt ra R 8 p2 h_14 (by omega)) (good_V mw_439 mw_441 ms_0 mw_1 mw_442) 0 rfl rfl ⟨rfl, by decide +kernel⟩ rfl rfl rfl ⟨by decide, by decide⟩ rfl hl (Nat.le_of_ble_eq_true rfl) dX11_feed_27 ⟨Nat.le_of_ble_eq_true rfl, Nat.le_of_ble_eq_true rfl⟩ (fun u_16 H locs w_17 B => ?_)
    obtain ⟨iv_18, ia_19⟩ := u_16
    have h_20 := w_17
    have h_20 : (iv_18 0).toInt = 12 := by have h0 := h_20; dsimp only at h0; omega
    have B : Hp D A s.heap (XW ct ad iv_18 ia_19 la pt ra R) H locs := B
    refine at_n (n := 30) (k1 := 0) (k2 := 0) rfl rfl rfl ?_
    refine lv_aload_n E.1.1 E.1.2.1 dX11_feed_30 rfl (lv_at hl 0 rfl) ?_
    refine lv_iload E.1.1 E.1.2.1 dX11_feed_31 (lv_at hl 4 rfl) ?_
    refine call_VV (kn := 1) E B (x_11_putFour l D ct tN ad iv_18 ia_19 la pt ra R 12 p3 h_20 (by omega)) (good_V mw_439 mw_441 ms_0 mw_1 mw_442) 0 rfl rfl ⟨rfl, by decide +kernel⟩ rfl rfl rfl ⟨by decide, by decide⟩ rfl hl (Nat.le_of_ble_eq_true rfl) dX11_feed_33 ⟨Nat.le_of_ble_eq_true rfl, Nat.le_of_ble_eq_true rfl⟩ (fun u_22 H locs w_23 B => ?_)
    obtain ⟨iv_24, ia_25⟩ := u_22
    have h_26 := w_23
    have h_26 : (iv_24 0).toInt = 16 := by have h0 := h_26; dsimp only at h0; omega
    have B : Hp D A s.heap (XW ct ad iv_24 ia_25 la pt ra R) H locs := B
    refine at_n (n := 36) (k1 := 0) (k2 := 0) rfl rfl rfl ?_
    refine lv_aload_n E.1.1 E.1.2.1 dX11_feed_36 rfl (lv_at hl 0 rfl) ?_
    refine lv_iload E.1.1 E.1.2.1 dX11_feed_37 (lv_at hl 5 rfl) ?_
    refine call_VV (kn := 1) E B (x_11_putFour l D ct tN ad iv_24 ia_25 la pt ra R 16 p4 h_26 (by omega)) (good_V mw_439 mw_441 ms_0 mw_1 mw_442) 0 rfl rfl ⟨rfl, by decide +kernel⟩ rfl rfl rfl ⟨by decide, by decide⟩ rfl hl (Nat.le_of_ble_eq_true rfl) dX11_feed_39 ⟨Nat.le_of_ble_eq_true rfl, Nat.le_of_ble_eq_true rfl⟩ (fun u_28 H locs w_29 B => ?_)
    obtain ⟨iv_30, ia_31⟩ := u_28
    have h_32 := w_29
    have h_32 : (iv_30 0).toInt = 20 := by have h0 := h_32; dsimp only at h0; omega
    have B : Hp D A s.heap (XW ct ad iv_30 ia_31 la pt ra R) H locs := B
    refine at_n (n := 42) (k1 := 0) (k2 := 0) rfl rfl rfl ?_
    refine lv_aload_n E.1.1 E.1.2.1 dX11_feed_42 rfl (lv_at hl 0 rfl) ?_
    refine row_get (v := .int (iv_30 0)) E B iX11 rfl 12 (by decide) mw_397 0 rfl rfl dX11_feed_43 ?_
    have r_33 : (iv_30 0).toInt = 20 := h_32
    exact ret_I (u := _) E hr hlk rfl B (by omega) dX11_feed_46
  · exfalso; omega
set_option maxHeartbeats 4000000 in
set_option maxRecDepth 100000 in
theorem x_11_verse (l : Launch) (D : va_G) (ct : Nat → ClassId) (tN : Nat) (ad : Nat → Nat) (iv : Nat → Int32) (ia : Nat → Nat → Int32) (la : Nat → Nat → Int64) (pt : Nat → Option Nat) (ra : Nat → Nat → Option Nat) (R : va_W) (p0 : Int32) (p1 : Int32) (h3 : (iv 3).toInt = 0) : MI l D (TY ct) tN yX11_verse cX11_verse 3 (some .int) ({ frames := 1, cells := 0, slots := 0, locals := 22 } : Room) [.ref (ad 0), .int p0, .int p1] (XW ct ad iv ia la pt ra R) (fun (v : Int32) (u : va_W) => (0 ≤ p0.toInt ∧ p0.toInt ≤ 7 ∧ 0 ≤ p1.toInt ∧ p1.toInt ≤ 40 ∧ v.toInt = 0) ∨ ((p0.toInt < 0 ∨ 7 < p0.toInt ∨ p1.toInt < 0 ∨ 40 < p1.toInt) ∧ v.toInt = -1)) (fun u => u) 0 0 := by
  intro sz
  refine Met.ofE (Qc := fun A => va_Qi (fun (v : Int32) (u : va_W) => (0 ≤ p0.toInt ∧ p0.toInt ≤ 7 ∧ 0 ≤ p1.toInt ∧ p1.toInt ≤ 40 ∧ v.toInt = 0) ∨ ((p0.toInt < 0 ∨ 7 < p0.toInt ∨ p1.toInt < 0 ∨ 40 < p1.toInt) ∧ v.toInt = -1)) (BW D A (fun u => u)) A) (by decide) (Nat.le_of_ble_eq_true rfl) ?_
  intro p e s m args below meth c A ls hsz E hr hlk hnm B hl
  have hl : lv_has ls 3 [(0, .ref (ad 0)), (1, .int p0), (2, .int p1)] := hl
  refine lv_iload_n E.1.1 E.1.2.1 dX11_verse_0 rfl (lv_at hl 1 rfl) ?_
  refine b_lt (tgt := 20) E rfl dX11_verse_1 (by decide) (fun c_1 => ?_) (fun c_1 => ?_)
  · skip
    refine lv_iconst (v := -1) E.1.1 E.1.2.1 dX11_verse_20 (by decide) ?_
    have r_2 : (-1 : Int32).toInt = -1 := tI_m1
    exact ret_I (u := _) E hr hlk rfl B (by omega) dX11_verse_21
  · skip
    refine lv_iload_n E.1.1 E.1.2.1 dX11_verse_4 rfl (lv_at hl 1 rfl) ?_
    refine lv_bipush (v := 7) E.1.1 E.1.2.1 dX11_verse_5 (by decide) ?_
    refine c_gt (tgt := 20) E rfl tI_7 dX11_verse_7 (by decide) (fun c_3 => ?_) (fun c_3 => ?_)
    · skip
      refine lv_iconst (v := -1) E.1.1 E.1.2.1 dX11_verse_20 (by decide) ?_
      have r_4 : (-1 : Int32).toInt = -1 := tI_m1
      exact ret_I (u := _) E hr hlk rfl B (by omega) dX11_verse_21
    · skip
      refine lv_iload_n E.1.1 E.1.2.1 dX11_verse_10 rfl (lv_at hl 2 rfl) ?_
      refine b_lt (tgt := 20) E rfl dX11_verse_11 (by decide) (fun c_5 => ?_) (fun c_5 => ?_)
      · skip
        refine lv_iconst (v := -1) E.1.1 E.1.2.1 dX11_verse_20 (by decide) ?_
        have r_6 : (-1 : Int32).toInt = -1 := tI_m1
        exact ret_I (u := _) E hr hlk rfl B (by omega) dX11_verse_21
      · skip
        refine lv_iload_n E.1.1 E.1.2.1 dX11_verse_14 rfl (lv_at hl 2 rfl) ?_
        refine lv_bipush (v := 40) E.1.1 E.1.2.1 dX11_verse_15 (by decide) ?_
        refine c_le (tgt := 22) E rfl tI_40 dX11_verse_17 (by decide) (fun c_7 => ?_) (fun c_7 => ?_)
        · skip
          refine lv_aload_n E.1.1 E.1.2.1 dX11_verse_22 rfl (lv_at hl 0 rfl) ?_
          refine row_get (v := .ref (ad 6)) E B iX11 rfl 3 (by decide) mw_388 0 rfl rfl dX11_verse_23 ?_
          refine lv_iload_n E.1.1 E.1.2.1 dX11_verse_26 rfl (lv_at hl 1 rfl) ?_
          refine lv_iload_n E.1.1 E.1.2.1 dX11_verse_27 rfl (lv_at hl 2 rfl) ?_
          refine call_VI (kn := 2) E B (x_9_enter l D ct tN ad iv ia la pt ra R  p0 p1 h3) (good_V mw_447 mw_448 mw_449 mw_3 mw_450) 6 rfl rfl ⟨rfl, by decide +kernel⟩ rfl rfl rfl ⟨by decide, by decide⟩ rfl hl (Nat.le_of_ble_eq_true rfl) dX11_verse_28 ⟨Nat.le_of_ble_eq_true rfl, Nat.le_of_ble_eq_true rfl⟩ (fun v_8 u_9 H locs w_10 B => ?_)
          have w_10 : v_8.toInt = 0 := w_10
          have B : Hp D A s.heap (_) H locs := B
          refine at_n (n := 31) (k1 := 0) (k2 := 0) rfl rfl rfl ?_
          have r_11 : v_8.toInt = 0 := w_10
          exact ret_I (u := _) E hr hlk rfl B (by omega) dX11_verse_31
        · skip
          refine lv_iconst (v := -1) E.1.1 E.1.2.1 dX11_verse_20 (by decide) ?_
          have r_12 : (-1 : Int32).toInt = -1 := tI_m1
          exact ret_I (u := _) E hr hlk rfl B (by omega) dX11_verse_21
set_option maxHeartbeats 4000000 in
set_option maxRecDepth 100000 in
theorem x_11_source (l : Launch) (D : va_G) (ct : Nat → ClassId) (tN : Nat) (ad : Nat → Nat) (iv : Nat → Int32) (ia : Nat → Nat → Int32) (la : Nat → Nat → Int64) (pt : Nat → Option Nat) (ra : Nat → Nat → Option Nat) (R : va_W) (p0 : Int32) (p1 : Int32) (p2 : Int32) (h3 : (iv 3).toInt = 0) : MI l D (TY ct) tN yX11_source cX11_source 4 (some .boolean) ({ frames := 1, cells := 0, slots := 0, locals := 21 } : Room) [.ref (ad 0), .int p0, .int p1, .int p2] (XW ct ad iv ia la pt ra R) (fun (v : Int32) (u : va_W) => v.toInt = 0) (fun u => u) 0 0 := by
  intro sz
  refine Met.ofE (Qc := fun A => va_Qi (fun (v : Int32) (u : va_W) => v.toInt = 0) (BW D A (fun u => u)) A) (by decide) (Nat.le_of_ble_eq_true rfl) ?_
  intro p e s m args below meth c A ls hsz E hr hlk hnm B hl
  have hl : lv_has ls 4 [(0, .ref (ad 0)), (1, .int p0), (2, .int p1), (3, .int p2)] := hl
  refine lv_aload_n E.1.1 E.1.2.1 dX11_source_0 rfl (lv_at hl 0 rfl) ?_
  refine row_get (v := .ref (ad 6)) E B iX11 rfl 3 (by decide) mw_388 0 rfl rfl dX11_source_1 ?_
  refine lv_iload_n E.1.1 E.1.2.1 dX11_source_4 rfl (lv_at hl 1 rfl) ?_
  refine call_VI (kn := 1) E B (x_9_has l D ct tN ad iv ia la pt ra R  p0 h3) (good_V mw_455 mw_456 mw_457 mw_3 mw_458) 6 rfl rfl ⟨rfl, by decide +kernel⟩ rfl rfl rfl ⟨by decide, by decide⟩ rfl hl (Nat.le_of_ble_eq_true rfl) dX11_source_5 ⟨Nat.le_of_ble_eq_true rfl, Nat.le_of_ble_eq_true rfl⟩ (fun v_1 u_2 H locs w_3 B => ?_)
  have w_3 : v_1.toInt = 0 := w_3
  have B : Hp D A s.heap (XW ct ad iv ia la pt ra R) H locs := B
  refine at_n (n := 8) (k1 := 0) (k2 := 0) rfl rfl rfl ?_
  refine b_eq (tgt := 36) E w_3 dX11_source_8 (by decide) (fun c_4 => ?_) (fun c_4 => ?_)
  · skip
    refine lv_iconst (v := 0) E.1.1 E.1.2.1 dX11_source_36 (by decide) ?_
    have r_5 : (0 : Int32).toInt = 0 := tI_0
    exact ret_I (u := _) E hr hlk (narrow_z (by omega)) B (by omega) dX11_source_37
  · exfalso; omega
set_option maxHeartbeats 4000000 in
set_option maxRecDepth 100000 in
theorem x_11_word (l : Launch) (D : va_G) (ct : Nat → ClassId) (tN : Nat) (ad : Nat → Nat) (iv : Nat → Int32) (ia : Nat → Nat → Int32) (la : Nat → Nat → Int64) (pt : Nat → Option Nat) (ra : Nat → Nat → Option Nat) (R : va_W) (p0 : Int32) (h0 : (iv 0).toInt = 0) : MI l D (TY ct) tN yX11_word cX11_word 3 (some .int) ({ frames := 1, cells := 0, slots := 0, locals := 22 } : Room) [.ref (ad 0), .int p0] (XW ct ad iv ia la pt ra R) (fun (v : Int32) (u : va_W) => v.toInt = -1) (fun u => u) 0 0 := by
  intro sz
  refine Met.ofE (Qc := fun A => va_Qi (fun (v : Int32) (u : va_W) => v.toInt = -1) (BW D A (fun u => u)) A) (by decide) (Nat.le_of_ble_eq_true rfl) ?_
  intro p e s m args below meth c A ls hsz E hr hlk hnm B hl
  have hl : lv_has ls 3 [(0, .ref (ad 0)), (1, .int p0)] := hl
  refine lv_aload_n E.1.1 E.1.2.1 dX11_word_0 rfl (lv_at hl 0 rfl) ?_
  refine lv_iload_n E.1.1 E.1.2.1 dX11_word_1 rfl (lv_at hl 1 rfl) ?_
  refine lv_bipush (v := 12) E.1.1 E.1.2.1 dX11_word_2 (by decide) ?_
  refine call_VI (kn := 2) E B (x_11_tapeHas l D ct tN ad iv ia la pt ra R  p0 ((12 : Int32)) h0) (good_V mw_462 mw_464 ms_1 mw_1 mw_465) 0 rfl rfl ⟨rfl, by decide +kernel⟩ rfl rfl rfl ⟨by decide, by decide⟩ rfl hl (Nat.le_of_ble_eq_true rfl) dX11_word_4 ⟨Nat.le_of_ble_eq_true rfl, Nat.le_of_ble_eq_true rfl⟩ (fun v_1 u_2 H locs w_3 B => ?_)
  have w_3 : v_1.toInt = 0 := w_3
  have B : Hp D A s.heap (XW ct ad iv ia la pt ra R) H locs := B
  refine at_n (n := 7) (k1 := 0) (k2 := 0) rfl rfl rfl ?_
  refine b_eq (tgt := 18) E w_3 dX11_word_7 (by decide) (fun c_4 => ?_) (fun c_4 => ?_)
  · skip
    refine lv_iconst (v := -1) E.1.1 E.1.2.1 dX11_word_18 (by decide) ?_
    have r_5 : (-1 : Int32).toInt = -1 := tI_m1
    exact ret_I (u := _) E hr hlk rfl B (by omega) dX11_word_19
  · exfalso; omega
set_option maxHeartbeats 4000000 in
set_option maxRecDepth 100000 in
theorem x_11_spell (l : Launch) (D : va_G) (ct : Nat → ClassId) (tN : Nat) (ad : Nat → Nat) (iv : Nat → Int32) (ia : Nat → Nat → Int32) (la : Nat → Nat → Int64) (pt : Nat → Option Nat) (ra : Nat → Nat → Option Nat) (R : va_W) (p0 : Int32) (p1 : Int32) (p2 : Int32) (h2 : (iv 2).toInt = 0) : MI l D (TY ct) tN yX11_spell cX11_spell 4 (some .boolean) ({ frames := 1, cells := 0, slots := 0, locals := 21 } : Room) [.ref (ad 0), .int p0, .int p1, .int p2] (XW ct ad iv ia la pt ra R) (fun (v : Int32) (u : va_W) => v.toInt = 0) (fun u => u) 0 0 := by
  intro sz
  refine Met.ofE (Qc := fun A => va_Qi (fun (v : Int32) (u : va_W) => v.toInt = 0) (BW D A (fun u => u)) A) (by decide) (Nat.le_of_ble_eq_true rfl) ?_
  intro p e s m args below meth c A ls hsz E hr hlk hnm B hl
  have hl : lv_has ls 4 [(0, .ref (ad 0)), (1, .int p0), (2, .int p1), (3, .int p2)] := hl
  refine lv_iload_n E.1.1 E.1.2.1 dX11_spell_0 rfl (lv_at hl 1 rfl) ?_
  refine call_SI (kn := 1) E B (x_11_isEdition l D ct tN ad iv ia la pt ra R  p0 ) (good_S mw_507 mw_508 mw_1 mw_509) (by decide +kernel) rfl rfl rfl ⟨by decide, by decide⟩ rfl hl (Nat.le_of_ble_eq_true rfl) dX11_spell_1 ⟨Nat.le_of_ble_eq_true rfl, Nat.le_of_ble_eq_true rfl⟩ (fun v_1 u_2 H locs w_3 B => ?_)
  have w_3 : (0 ≤ p0.toInt ∧ p0.toInt ≤ 3 ∧ v_1.toInt = 1) ∨ ((p0.toInt < 0 ∨ 3 < p0.toInt) ∧ v_1.toInt = 0) := w_3
  have B : Hp D A s.heap (XW ct ad iv ia la pt ra R) H locs := B
  refine at_n (n := 4) (k1 := 0) (k2 := 0) rfl rfl rfl ?_
  refine b_eq (tgt := 18) E rfl dX11_spell_4 (by decide) (fun c_4 => ?_) (fun c_4 => ?_)
  · skip
    refine lv_iconst (v := 0) E.1.1 E.1.2.1 dX11_spell_18 (by decide) ?_
    have r_5 : (0 : Int32).toInt = 0 := tI_0
    exact ret_I (u := _) E hr hlk (narrow_z (by omega)) B (by omega) dX11_spell_19
  · skip
    refine lv_aload_n E.1.1 E.1.2.1 dX11_spell_7 rfl (lv_at hl 0 rfl) ?_
    refine row_get (v := .ref (ad 3)) E B iX11 rfl 2 (by decide) mw_387 0 rfl rfl dX11_spell_8 ?_
    refine lv_iload_n E.1.1 E.1.2.1 dX11_spell_11 rfl (lv_at hl 2 rfl) ?_
    refine call_VI (kn := 1) E B (x_10_has l D ct tN ad iv ia la pt ra R  p1 h2) (good_V mw_510 mw_511 mw_512 mw_2 mw_513) 3 rfl rfl ⟨rfl, by decide +kernel⟩ rfl rfl rfl ⟨by decide, by decide⟩ rfl hl (Nat.le_of_ble_eq_true rfl) dX11_spell_12 ⟨Nat.le_of_ble_eq_true rfl, Nat.le_of_ble_eq_true rfl⟩ (fun v_6 u_7 H locs w_8 B => ?_)
    have w_8 : v_6.toInt = 0 := w_8
    have B : Hp D A s.heap (XW ct ad iv ia la pt ra R) H locs := B
    refine at_n (n := 15) (k1 := 0) (k2 := 0) rfl rfl rfl ?_
    refine b_ne (tgt := 20) E w_8 dX11_spell_15 (by decide) (fun c_9 => ?_) (fun c_9 => ?_)
    · exfalso; omega
    · skip
      refine lv_iconst (v := 0) E.1.1 E.1.2.1 dX11_spell_18 (by decide) ?_
      have r_10 : (0 : Int32).toInt = 0 := tI_0
      exact ret_I (u := _) E hr hlk (narrow_z (by omega)) B (by omega) dX11_spell_19
set_option maxHeartbeats 4000000 in
set_option maxRecDepth 100000 in
theorem x_11_syllables (l : Launch) (D : va_G) (ct : Nat → ClassId) (tN : Nat) (ad : Nat → Nat) (iv : Nat → Int32) (ia : Nat → Nat → Int32) (la : Nat → Nat → Int64) (pt : Nat → Option Nat) (ra : Nat → Nat → Option Nat) (R : va_W) (p0 : Int32) (h2 : (iv 2).toInt = 0) : MI l D (TY ct) tN yX11_syllables cX11_syllables 2 (some .int) ({ frames := 1, cells := 0, slots := 0, locals := 21 } : Room) [.ref (ad 0), .int p0] (XW ct ad iv ia la pt ra R) (fun (v : Int32) (u : va_W) => v.toInt = -1) (fun u => u) 0 0 := by
  intro sz
  refine Met.ofE (Qc := fun A => va_Qi (fun (v : Int32) (u : va_W) => v.toInt = -1) (BW D A (fun u => u)) A) (by decide) (Nat.le_of_ble_eq_true rfl) ?_
  intro p e s m args below meth c A ls hsz E hr hlk hnm B hl
  have hl : lv_has ls 2 [(0, .ref (ad 0)), (1, .int p0)] := hl
  refine lv_aload_n E.1.1 E.1.2.1 dX11_syllables_0 rfl (lv_at hl 0 rfl) ?_
  refine row_get (v := .ref (ad 3)) E B iX11 rfl 2 (by decide) mw_387 0 rfl rfl dX11_syllables_1 ?_
  refine lv_iload_n E.1.1 E.1.2.1 dX11_syllables_4 rfl (lv_at hl 1 rfl) ?_
  refine call_VI (kn := 1) E B (x_10_has l D ct tN ad iv ia la pt ra R  p0 h2) (good_V mw_510 mw_511 mw_512 mw_2 mw_513) 3 rfl rfl ⟨rfl, by decide +kernel⟩ rfl rfl rfl ⟨by decide, by decide⟩ rfl hl (Nat.le_of_ble_eq_true rfl) dX11_syllables_5 ⟨Nat.le_of_ble_eq_true rfl, Nat.le_of_ble_eq_true rfl⟩ (fun v_1 u_2 H locs w_3 B => ?_)
  have w_3 : v_1.toInt = 0 := w_3
  have B : Hp D A s.heap (XW ct ad iv ia la pt ra R) H locs := B
  refine at_n (n := 8) (k1 := 0) (k2 := 0) rfl rfl rfl ?_
  refine b_eq (tgt := 22) E w_3 dX11_syllables_8 (by decide) (fun c_4 => ?_) (fun c_4 => ?_)
  · skip
    refine lv_iconst (v := -1) E.1.1 E.1.2.1 dX11_syllables_22 (by decide) ?_
    have r_5 : (-1 : Int32).toInt = -1 := tI_m1
    exact ret_I (u := _) E hr hlk rfl B (by omega) dX11_syllables_23
  · exfalso; omega
set_option maxHeartbeats 4000000 in
set_option maxRecDepth 100000 in
theorem x_11_company (l : Launch) (D : va_G) (ct : Nat → ClassId) (tN : Nat) (ad : Nat → Nat) (iv : Nat → Int32) (ia : Nat → Nat → Int32) (la : Nat → Nat → Int64) (pt : Nat → Option Nat) (ra : Nat → Nat → Option Nat) (R : va_W) (p0 : Int32) (p1 : Int32) (h6 : (iv 6).toInt = 0) : MI l D (TY ct) tN yX11_company cX11_company 3 (some .int) ({ frames := 1, cells := 0, slots := 0, locals := 22 } : Room) [.ref (ad 0), .int p0, .int p1] (XW ct ad iv ia la pt ra R) (fun (v : Int32) (u : va_W) => (0 ≤ p0.toInt ∧ p0.toInt ≤ 255 ∧ 0 ≤ p1.toInt ∧ p1.toInt ≤ 99 ∧ v.toInt = 0) ∨ ((p0.toInt < 0 ∨ 255 < p0.toInt ∨ p1.toInt < 0 ∨ 99 < p1.toInt) ∧ v.toInt = -1)) (fun u => u) 0 0 := by
  intro sz
  refine Met.ofE (Qc := fun A => va_Qi (fun (v : Int32) (u : va_W) => (0 ≤ p0.toInt ∧ p0.toInt ≤ 255 ∧ 0 ≤ p1.toInt ∧ p1.toInt ≤ 99 ∧ v.toInt = 0) ∨ ((p0.toInt < 0 ∨ 255 < p0.toInt ∨ p1.toInt < 0 ∨ 99 < p1.toInt) ∧ v.toInt = -1)) (BW D A (fun u => u)) A) (by decide) (Nat.le_of_ble_eq_true rfl) ?_
  intro p e s m args below meth c A ls hsz E hr hlk hnm B hl
  have hl : lv_has ls 3 [(0, .ref (ad 0)), (1, .int p0), (2, .int p1)] := hl
  refine lv_iload_n E.1.1 E.1.2.1 dX11_company_0 rfl (lv_at hl 1 rfl) ?_
  refine b_lt (tgt := 18) E rfl dX11_company_1 (by decide) (fun c_1 => ?_) (fun c_1 => ?_)
  · skip
    refine lv_iconst (v := -1) E.1.1 E.1.2.1 dX11_company_18 (by decide) ?_
    have r_2 : (-1 : Int32).toInt = -1 := tI_m1
    exact ret_I (u := _) E hr hlk rfl B (by omega) dX11_company_19
  · skip
    refine lv_iload_n E.1.1 E.1.2.1 dX11_company_4 rfl (lv_at hl 1 rfl) ?_
    refine lv_sipush (v := 255) E.1.1 E.1.2.1 dX11_company_5 (by decide) ?_
    refine c_gt (tgt := 18) E rfl tI_255 dX11_company_8 (by decide) (fun c_3 => ?_) (fun c_3 => ?_)
    · skip
      refine lv_iconst (v := -1) E.1.1 E.1.2.1 dX11_company_18 (by decide) ?_
      have r_4 : (-1 : Int32).toInt = -1 := tI_m1
      exact ret_I (u := _) E hr hlk rfl B (by omega) dX11_company_19
    · skip
      refine lv_iload_n E.1.1 E.1.2.1 dX11_company_11 rfl (lv_at hl 2 rfl) ?_
      refine call_SI (kn := 1) E B (x_11_isRate l D ct tN ad iv ia la pt ra R  p1 ) (good_S mw_538 mw_539 mw_1 mw_540) (by decide +kernel) rfl rfl rfl ⟨by decide, by decide⟩ rfl hl (Nat.le_of_ble_eq_true rfl) dX11_company_12 ⟨Nat.le_of_ble_eq_true rfl, Nat.le_of_ble_eq_true rfl⟩ (fun v_5 u_6 H locs w_7 B => ?_)
      have w_7 : (0 ≤ p1.toInt ∧ p1.toInt ≤ 99 ∧ v_5.toInt = 1) ∨ ((p1.toInt < 0 ∨ 99 < p1.toInt) ∧ v_5.toInt = 0) := w_7
      have B : Hp D A s.heap (XW ct ad iv ia la pt ra R) H locs := B
      refine at_n (n := 15) (k1 := 0) (k2 := 0) rfl rfl rfl ?_
      refine b_ne (tgt := 20) E rfl dX11_company_15 (by decide) (fun c_8 => ?_) (fun c_8 => ?_)
      · skip
        refine lv_aload_n E.1.1 E.1.2.1 dX11_company_20 rfl (lv_at hl 0 rfl) ?_
        refine row_get (v := .ref (ad 12)) E B iX11 rfl 4 (by decide) mw_389 0 rfl rfl dX11_company_21 ?_
        refine lv_iload_n E.1.1 E.1.2.1 dX11_company_24 rfl (lv_at hl 1 rfl) ?_
        refine lv_iload_n E.1.1 E.1.2.1 dX11_company_25 rfl (lv_at hl 2 rfl) ?_
        refine call_VI (kn := 2) E B (x_4_enterCompany l D ct tN ad iv ia la pt ra R  p0 p1 h6) (good_V mw_541 mw_542 mw_543 mw_4 mw_544) 12 rfl rfl ⟨rfl, by decide +kernel⟩ rfl rfl rfl ⟨by decide, by decide⟩ rfl hl (Nat.le_of_ble_eq_true rfl) dX11_company_26 ⟨Nat.le_of_ble_eq_true rfl, Nat.le_of_ble_eq_true rfl⟩ (fun v_9 u_10 H locs w_11 B => ?_)
        have w_11 : v_9.toInt = 0 := w_11
        have B : Hp D A s.heap (_) H locs := B
        refine at_n (n := 29) (k1 := 0) (k2 := 0) rfl rfl rfl ?_
        have r_12 : v_9.toInt = 0 := w_11
        exact ret_I (u := _) E hr hlk rfl B (by omega) dX11_company_29
      · skip
        refine lv_iconst (v := -1) E.1.1 E.1.2.1 dX11_company_18 (by decide) ?_
        have r_13 : (-1 : Int32).toInt = -1 := tI_m1
        exact ret_I (u := _) E hr hlk rfl B (by omega) dX11_company_19
set_option maxHeartbeats 4000000 in
set_option maxRecDepth 100000 in
theorem x_11_centre (l : Launch) (D : va_G) (ct : Nat → ClassId) (tN : Nat) (ad : Nat → Nat) (iv : Nat → Int32) (ia : Nat → Nat → Int32) (la : Nat → Nat → Int64) (pt : Nat → Option Nat) (ra : Nat → Nat → Option Nat) (R : va_W) (p0 : Int32)  : MI l D (TY ct) tN yX11_centre cX11_centre 2 (some .boolean) ({ frames := 1, cells := 0, slots := 0, locals := 21 } : Room) [.ref (ad 0), .int p0] (XW ct ad iv ia la pt ra R) (fun (v : Int32) (u : va_W) => (0 ≤ p0.toInt ∧ p0.toInt ≤ 99 ∧ v.toInt = 1) ∨ ((p0.toInt < 0 ∨ 99 < p0.toInt) ∧ v.toInt = 0)) (fun u => u) 0 0 := by
  intro sz
  refine Met.ofE (Qc := fun A => va_Qi (fun (v : Int32) (u : va_W) => (0 ≤ p0.toInt ∧ p0.toInt ≤ 99 ∧ v.toInt = 1) ∨ ((p0.toInt < 0 ∨ 99 < p0.toInt) ∧ v.toInt = 0)) (BW D A (fun u => u)) A) (by decide) (Nat.le_of_ble_eq_true rfl) ?_
  intro p e s m args below meth c A ls hsz E hr hlk hnm B hl
  have hl : lv_has ls 2 [(0, .ref (ad 0)), (1, .int p0)] := hl
  refine lv_iload_n E.1.1 E.1.2.1 dX11_centre_0 rfl (lv_at hl 1 rfl) ?_
  refine call_SI (kn := 1) E B (x_11_isRate l D ct tN ad iv ia la pt ra R  p0 ) (good_S mw_538 mw_539 mw_1 mw_540) (by decide +kernel) rfl rfl rfl ⟨by decide, by decide⟩ rfl hl (Nat.le_of_ble_eq_true rfl) dX11_centre_1 ⟨Nat.le_of_ble_eq_true rfl, Nat.le_of_ble_eq_true rfl⟩ (fun v_1 u_2 H locs w_3 B => ?_)
  have w_3 : (0 ≤ p0.toInt ∧ p0.toInt ≤ 99 ∧ v_1.toInt = 1) ∨ ((p0.toInt < 0 ∨ 99 < p0.toInt) ∧ v_1.toInt = 0) := w_3
  have B : Hp D A s.heap (XW ct ad iv ia la pt ra R) H locs := B
  refine at_n (n := 4) (k1 := 0) (k2 := 0) rfl rfl rfl ?_
  refine b_ne (tgt := 9) E rfl dX11_centre_4 (by decide) (fun c_4 => ?_) (fun c_4 => ?_)
  · skip
    refine lv_aload_n E.1.1 E.1.2.1 dX11_centre_9 rfl (lv_at hl 0 rfl) ?_
    refine row_get (v := .ref (ad 12)) E B iX11 rfl 4 (by decide) mw_389 0 rfl rfl dX11_centre_10 ?_
    refine lv_iload_n E.1.1 E.1.2.1 dX11_centre_13 rfl (lv_at hl 1 rfl) ?_
    refine call_VV (kn := 1) E B (x_4_setCentreRate l D ct tN ad iv ia la pt ra R  p0 ) (good_V mw_549 mw_550 mw_551 mw_4 mw_552) 12 rfl rfl ⟨rfl, by decide +kernel⟩ rfl rfl rfl ⟨by decide, by decide⟩ rfl hl (Nat.le_of_ble_eq_true rfl) dX11_centre_14 ⟨Nat.le_of_ble_eq_true rfl, Nat.le_of_ble_eq_true rfl⟩ (fun u_6 H locs w_7 B => ?_)
    have B : Hp D A s.heap (_) H locs := B
    refine at_n (n := 17) (k1 := 0) (k2 := 0) rfl rfl rfl ?_
    refine lv_iconst (v := 1) E.1.1 E.1.2.1 dX11_centre_17 (by decide) ?_
    have r_8 : (1 : Int32).toInt = 1 := tI_1
    exact ret_I (u := _) E hr hlk (narrow_z (by omega)) B (by omega) dX11_centre_18
  · skip
    refine lv_iconst (v := 0) E.1.1 E.1.2.1 dX11_centre_7 (by decide) ?_
    have r_9 : (0 : Int32).toInt = 0 := tI_0
    exact ret_I (u := _) E hr hlk (narrow_z (by omega)) B (by omega) dX11_centre_8
set_option maxHeartbeats 4000000 in
set_option maxRecDepth 100000 in
theorem x_11_scholar (l : Launch) (D : va_G) (ct : Nat → ClassId) (tN : Nat) (ad : Nat → Nat) (iv : Nat → Int32) (ia : Nat → Nat → Int32) (la : Nat → Nat → Int64) (pt : Nat → Option Nat) (ra : Nat → Nat → Option Nat) (R : va_W) (p0 : Int32) (p1 : Int32) (h6 : (iv 6).toInt = 0) : MI l D (TY ct) tN yX11_scholar cX11_scholar 3 (some .int) ({ frames := 1, cells := 0, slots := 0, locals := 21 } : Room) [.ref (ad 0), .int p0, .int p1] (XW ct ad iv ia la pt ra R) (fun (v : Int32) (u : va_W) => v.toInt = -1) (fun u => u) 0 0 := by
  intro sz
  refine Met.ofE (Qc := fun A => va_Qi (fun (v : Int32) (u : va_W) => v.toInt = -1) (BW D A (fun u => u)) A) (by decide) (Nat.le_of_ble_eq_true rfl) ?_
  intro p e s m args below meth c A ls hsz E hr hlk hnm B hl
  have hl : lv_has ls 3 [(0, .ref (ad 0)), (1, .int p0), (2, .int p1)] := hl
  refine lv_aload_n E.1.1 E.1.2.1 dX11_scholar_0 rfl (lv_at hl 0 rfl) ?_
  refine row_get (v := .ref (ad 12)) E B iX11 rfl 4 (by decide) mw_389 0 rfl rfl dX11_scholar_1 ?_
  refine lv_iload_n E.1.1 E.1.2.1 dX11_scholar_4 rfl (lv_at hl 1 rfl) ?_
  refine call_VI (kn := 1) E B (x_4_hasCompany l D ct tN ad iv ia la pt ra R  p0 h6) (good_V mw_557 mw_558 mw_559 mw_4 mw_560) 12 rfl rfl ⟨rfl, by decide +kernel⟩ rfl rfl rfl ⟨by decide, by decide⟩ rfl hl (Nat.le_of_ble_eq_true rfl) dX11_scholar_5 ⟨Nat.le_of_ble_eq_true rfl, Nat.le_of_ble_eq_true rfl⟩ (fun v_1 u_2 H locs w_3 B => ?_)
  have w_3 : v_1.toInt = 0 := w_3
  have B : Hp D A s.heap (XW ct ad iv ia la pt ra R) H locs := B
  refine at_n (n := 8) (k1 := 0) (k2 := 0) rfl rfl rfl ?_
  refine b_eq (tgt := 23) E w_3 dX11_scholar_8 (by decide) (fun c_4 => ?_) (fun c_4 => ?_)
  · skip
    refine lv_iconst (v := -1) E.1.1 E.1.2.1 dX11_scholar_23 (by decide) ?_
    have r_5 : (-1 : Int32).toInt = -1 := tI_m1
    exact ret_I (u := _) E hr hlk rfl B (by omega) dX11_scholar_24
  · exfalso; omega
set_option maxHeartbeats 4000000 in
set_option maxRecDepth 100000 in
theorem x_11_rules (l : Launch) (D : va_G) (ct : Nat → ClassId) (tN : Nat) (ad : Nat → Nat) (iv : Nat → Int32) (ia : Nat → Nat → Int32) (la : Nat → Nat → Int64) (pt : Nat → Option Nat) (ra : Nat → Nat → Option Nat) (R : va_W) (p0 : Int32) (p1 : Int32) (p2 : Int32) (p3 : Int32) (h0 : (iv 0).toInt = 0) (h6 : (iv 6).toInt = 0) (h9 : (iv 9).toInt = 0) : MI l D (TY ct) tN yX11_rules cX11_rules 6 (some .int) ({ frames := 1, cells := 0, slots := 0, locals := 22 } : Room) [.ref (ad 0), .int p0, .int p1, .int p2, .int p3] (XW ct ad iv ia la pt ra R) (fun (v : Int32) (u : va_W) => v.toInt = -1) (fun u => u) 0 0 := by
  intro sz
  refine Met.ofE (Qc := fun A => va_Qi (fun (v : Int32) (u : va_W) => v.toInt = -1) (BW D A (fun u => u)) A) (by decide) (Nat.le_of_ble_eq_true rfl) ?_
  intro p e s m args below meth c A ls hsz E hr hlk hnm B hl
  have hl : lv_has ls 6 [(0, .ref (ad 0)), (1, .int p0), (2, .int p1), (3, .int p2), (4, .int p3)] := hl
  refine lv_iload_n E.1.1 E.1.2.1 dX11_rules_0 rfl (lv_at hl 1 rfl) ?_
  refine lv_iconst (v := -1) E.1.1 E.1.2.1 dX11_rules_1 (by decide) ?_
  refine c_eq (tgt := 18) E rfl tI_m1 dX11_rules_2 (by decide) (fun c_1 => ?_) (fun c_1 => ?_)
  · skip
    refine lv_iload_n E.1.1 E.1.2.1 dX11_rules_18 rfl (lv_at hl 2 rfl) ?_
    refine call_SI (kn := 1) E B (x_11_isDay l D ct tN ad iv ia la pt ra R  p1 ) (good_S mw_432 mw_433 mw_1 mw_434) (by decide +kernel) rfl rfl rfl ⟨by decide, by decide⟩ rfl hl (Nat.le_of_ble_eq_true rfl) dX11_rules_19 ⟨Nat.le_of_ble_eq_true rfl, Nat.le_of_ble_eq_true rfl⟩ (fun v_2 u_3 H locs w_4 B => ?_)
    have w_4 : (0 ≤ p1.toInt ∧ p1.toInt ≤ 3999 ∧ v_2.toInt = 1) ∨ ((p1.toInt < 0 ∨ 3999 < p1.toInt) ∧ v_2.toInt = 0) := w_4
    have B : Hp D A s.heap (XW ct ad iv ia la pt ra R) H locs := B
    refine at_n (n := 22) (k1 := 0) (k2 := 0) rfl rfl rfl ?_
    refine b_eq (tgt := 37) E rfl dX11_rules_22 (by decide) (fun c_5 => ?_) (fun c_5 => ?_)
    · skip
      refine lv_iconst (v := -1) E.1.1 E.1.2.1 dX11_rules_37 (by decide) ?_
      have r_6 : (-1 : Int32).toInt = -1 := tI_m1
      exact ret_I (u := _) E hr hlk rfl B (by omega) dX11_rules_38
    · skip
      refine lv_iload_n E.1.1 E.1.2.1 dX11_rules_25 rfl (lv_at hl 3 rfl) ?_
      refine call_SI (kn := 1) E B (x_11_isDay l D ct tN ad iv ia la pt ra R  p2 ) (good_S mw_432 mw_433 mw_1 mw_434) (by decide +kernel) rfl rfl rfl ⟨by decide, by decide⟩ rfl hl (Nat.le_of_ble_eq_true rfl) dX11_rules_26 ⟨Nat.le_of_ble_eq_true rfl, Nat.le_of_ble_eq_true rfl⟩ (fun v_7 u_8 H locs w_9 B => ?_)
      have w_9 : (0 ≤ p2.toInt ∧ p2.toInt ≤ 3999 ∧ v_7.toInt = 1) ∨ ((p2.toInt < 0 ∨ 3999 < p2.toInt) ∧ v_7.toInt = 0) := w_9
      have B : Hp D A s.heap (XW ct ad iv ia la pt ra R) H locs := B
      refine at_n (n := 29) (k1 := 0) (k2 := 0) rfl rfl rfl ?_
      refine b_eq (tgt := 37) E rfl dX11_rules_29 (by decide) (fun c_10 => ?_) (fun c_10 => ?_)
      · skip
        refine lv_iconst (v := -1) E.1.1 E.1.2.1 dX11_rules_37 (by decide) ?_
        have r_11 : (-1 : Int32).toInt = -1 := tI_m1
        exact ret_I (u := _) E hr hlk rfl B (by omega) dX11_rules_38
      · skip
        refine lv_iload_n E.1.1 E.1.2.1 dX11_rules_32 rfl (lv_at hl 3 rfl) ?_
        refine lv_iload_n E.1.1 E.1.2.1 dX11_rules_33 rfl (lv_at hl 2 rfl) ?_
        refine c_ge (tgt := 39) E rfl rfl dX11_rules_34 (by decide) (fun c_12 => ?_) (fun c_12 => ?_)
        · skip
          refine lv_aload_n E.1.1 E.1.2.1 dX11_rules_39 rfl (lv_at hl 0 rfl) ?_
          refine row_get (v := .ref (ad 16)) E B iX11 rfl 5 (by decide) mw_390 0 rfl rfl dX11_rules_40 ?_
          refine call_VI (kn := 0) E B (x_2_isFull l D ct tN ad iv ia la pt ra R   h9) (good_V mw_570 mw_571 mw_572 mw_5 mw_573) 16 rfl rfl ⟨rfl, by decide +kernel⟩ rfl rfl rfl ⟨by decide, by decide⟩ rfl hl (Nat.le_of_ble_eq_true rfl) dX11_rules_43 ⟨Nat.le_of_ble_eq_true rfl, Nat.le_of_ble_eq_true rfl⟩ (fun v_13 u_14 H locs w_15 B => ?_)
          have w_15 : v_13.toInt = 0 := w_15
          have B : Hp D A s.heap (XW ct ad iv ia la pt ra R) H locs := B
          refine at_n (n := 46) (k1 := 0) (k2 := 0) rfl rfl rfl ?_
          refine b_ne (tgt := 61) E w_15 dX11_rules_46 (by decide) (fun c_16 => ?_) (fun c_16 => ?_)
          · exfalso; omega
          · skip
            refine lv_aload_n E.1.1 E.1.2.1 dX11_rules_49 rfl (lv_at hl 0 rfl) ?_
            refine lv_iload E.1.1 E.1.2.1 dX11_rules_50 (lv_at hl 4 rfl) ?_
            refine lv_sipush (v := 160) E.1.1 E.1.2.1 dX11_rules_52 (by decide) ?_
            refine call_VI (kn := 2) E B (x_11_tapeHas l D ct tN ad iv ia la pt ra R  p3 ((160 : Int32)) h0) (good_V mw_462 mw_464 ms_1 mw_1 mw_465) 0 rfl rfl ⟨rfl, by decide +kernel⟩ rfl rfl rfl ⟨by decide, by decide⟩ rfl hl (Nat.le_of_ble_eq_true rfl) dX11_rules_55 ⟨Nat.le_of_ble_eq_true rfl, Nat.le_of_ble_eq_true rfl⟩ (fun v_17 u_18 H locs w_19 B => ?_)
            have w_19 : v_17.toInt = 0 := w_19
            have B : Hp D A s.heap (XW ct ad iv ia la pt ra R) H locs := B
            refine at_n (n := 58) (k1 := 0) (k2 := 0) rfl rfl rfl ?_
            refine b_ne (tgt := 63) E w_19 dX11_rules_58 (by decide) (fun c_20 => ?_) (fun c_20 => ?_)
            · exfalso; omega
            · skip
              refine lv_iconst (v := -1) E.1.1 E.1.2.1 dX11_rules_61 (by decide) ?_
              have r_21 : (-1 : Int32).toInt = -1 := tI_m1
              exact ret_I (u := _) E hr hlk rfl B (by omega) dX11_rules_62
        · skip
          refine lv_iconst (v := -1) E.1.1 E.1.2.1 dX11_rules_37 (by decide) ?_
          have r_22 : (-1 : Int32).toInt = -1 := tI_m1
          exact ret_I (u := _) E hr hlk rfl B (by omega) dX11_rules_38
  · skip
    refine lv_aload_n E.1.1 E.1.2.1 dX11_rules_5 rfl (lv_at hl 0 rfl) ?_
    refine row_get (v := .ref (ad 12)) E B iX11 rfl 4 (by decide) mw_389 0 rfl rfl dX11_rules_6 ?_
    refine lv_iload_n E.1.1 E.1.2.1 dX11_rules_9 rfl (lv_at hl 1 rfl) ?_
    refine call_VI (kn := 1) E B (x_4_hasCompany l D ct tN ad iv ia la pt ra R  p0 h6) (good_V mw_557 mw_558 mw_559 mw_4 mw_560) 12 rfl rfl ⟨rfl, by decide +kernel⟩ rfl rfl rfl ⟨by decide, by decide⟩ rfl hl (Nat.le_of_ble_eq_true rfl) dX11_rules_10 ⟨Nat.le_of_ble_eq_true rfl, Nat.le_of_ble_eq_true rfl⟩ (fun v_23 u_24 H locs w_25 B => ?_)
    have w_25 : v_23.toInt = 0 := w_25
    have B : Hp D A s.heap (XW ct ad iv ia la pt ra R) H locs := B
    refine at_n (n := 13) (k1 := 0) (k2 := 0) rfl rfl rfl ?_
    refine b_ne (tgt := 18) E w_25 dX11_rules_13 (by decide) (fun c_26 => ?_) (fun c_26 => ?_)
    · exfalso; omega
    · skip
      refine lv_iconst (v := -1) E.1.1 E.1.2.1 dX11_rules_16 (by decide) ?_
      have r_27 : (-1 : Int32).toInt = -1 := tI_m1
      exact ret_I (u := _) E hr hlk rfl B (by omega) dX11_rules_17
set_option maxHeartbeats 4000000 in
set_option maxRecDepth 100000 in
theorem x_11_holds (l : Launch) (D : va_G) (ct : Nat → ClassId) (tN : Nat) (ad : Nat → Nat) (iv : Nat → Int32) (ia : Nat → Nat → Int32) (la : Nat → Nat → Int64) (pt : Nat → Option Nat) (ra : Nat → Nat → Option Nat) (R : va_W) (p0 : Int32) (p1 : Int32) (p2 : Int32) (p3 : Int32) (h9 : (iv 9).toInt = 0) : MI l D (TY ct) tN yX11_holds cX11_holds 5 (some .int) ({ frames := 2, cells := 0, slots := 0, locals := 43 } : Room) [.ref (ad 0), .int p0, .int p1, .int p2, .int p3] (XW ct ad iv ia la pt ra R) (fun (v : Int32) (u : va_W) => v.toInt = -1) (fun u => u) 0 0 := by
  intro sz
  refine Met.ofE (Qc := fun A => va_Qi (fun (v : Int32) (u : va_W) => v.toInt = -1) (BW D A (fun u => u)) A) (by decide) (Nat.le_of_ble_eq_true rfl) ?_
  intro p e s m args below meth c A ls hsz E hr hlk hnm B hl
  have hl : lv_has ls 5 [(0, .ref (ad 0)), (1, .int p0), (2, .int p1), (3, .int p2), (4, .int p3)] := hl
  refine lv_aload_n E.1.1 E.1.2.1 dX11_holds_0 rfl (lv_at hl 0 rfl) ?_
  refine row_get (v := .ref (ad 16)) E B iX11 rfl 5 (by decide) mw_390 0 rfl rfl dX11_holds_1 ?_
  refine lv_iload_n E.1.1 E.1.2.1 dX11_holds_4 rfl (lv_at hl 1 rfl) ?_
  refine lv_iload_n E.1.1 E.1.2.1 dX11_holds_5 rfl (lv_at hl 2 rfl) ?_
  refine call_VI (kn := 2) E B (x_2_hasClause l D ct tN ad iv ia la pt ra R  p0 p1 h9) (good_V mw_686 mw_687 mw_688 mw_5 mw_689) 16 rfl rfl ⟨rfl, by decide +kernel⟩ rfl rfl rfl ⟨by decide, by decide⟩ rfl hl (Nat.le_of_ble_eq_true rfl) dX11_holds_6 ⟨Nat.le_of_ble_eq_true rfl, Nat.le_of_ble_eq_true rfl⟩ (fun v_1 u_2 H locs w_3 B => ?_)
  have w_3 : v_1.toInt = 0 := w_3
  have B : Hp D A s.heap (XW ct ad iv ia la pt ra R) H locs := B
  refine at_n (n := 9) (k1 := 0) (k2 := 0) rfl rfl rfl ?_
  refine b_eq (tgt := 31) E w_3 dX11_holds_9 (by decide) (fun c_4 => ?_) (fun c_4 => ?_)
  · skip
    refine lv_iconst (v := -1) E.1.1 E.1.2.1 dX11_holds_31 (by decide) ?_
    have r_5 : (-1 : Int32).toInt = -1 := tI_m1
    exact ret_I (u := _) E hr hlk rfl B (by omega) dX11_holds_32
  · exfalso; omega
set_option maxHeartbeats 4000000 in
set_option maxRecDepth 100000 in
theorem x_11_asks (l : Launch) (D : va_G) (ct : Nat → ClassId) (tN : Nat) (ad : Nat → Nat) (iv : Nat → Int32) (ia : Nat → Nat → Int32) (la : Nat → Nat → Int64) (pt : Nat → Option Nat) (ra : Nat → Nat → Option Nat) (R : va_W) (p0 : Int32) (p1 : Int32) (p2 : Int32) (h3 : (iv 3).toInt = 0) : MI l D (TY ct) tN yX11_asks cX11_asks 4 (some .int) ({ frames := 1, cells := 0, slots := 0, locals := 21 } : Room) [.ref (ad 0), .int p0, .int p1, .int p2] (XW ct ad iv ia la pt ra R) (fun (v : Int32) (u : va_W) => v.toInt = -1) (fun u => u) 0 0 := by
  intro sz
  refine Met.ofE (Qc := fun A => va_Qi (fun (v : Int32) (u : va_W) => v.toInt = -1) (BW D A (fun u => u)) A) (by decide) (Nat.le_of_ble_eq_true rfl) ?_
  intro p e s m args below meth c A ls hsz E hr hlk hnm B hl
  have hl : lv_has ls 4 [(0, .ref (ad 0)), (1, .int p0), (2, .int p1), (3, .int p2)] := hl
  refine lv_aload_n E.1.1 E.1.2.1 dX11_asks_0 rfl (lv_at hl 0 rfl) ?_
  refine row_get (v := .ref (ad 6)) E B iX11 rfl 3 (by decide) mw_388 0 rfl rfl dX11_asks_1 ?_
  refine lv_iload_n E.1.1 E.1.2.1 dX11_asks_4 rfl (lv_at hl 1 rfl) ?_
  refine call_VI (kn := 1) E B (x_9_has l D ct tN ad iv ia la pt ra R  p0 h3) (good_V mw_455 mw_456 mw_457 mw_3 mw_458) 6 rfl rfl ⟨rfl, by decide +kernel⟩ rfl rfl rfl ⟨by decide, by decide⟩ rfl hl (Nat.le_of_ble_eq_true rfl) dX11_asks_5 ⟨Nat.le_of_ble_eq_true rfl, Nat.le_of_ble_eq_true rfl⟩ (fun v_1 u_2 H locs w_3 B => ?_)
  have w_3 : v_1.toInt = 0 := w_3
  have B : Hp D A s.heap (XW ct ad iv ia la pt ra R) H locs := B
  refine at_n (n := 8) (k1 := 0) (k2 := 0) rfl rfl rfl ?_
  refine b_eq (tgt := 18) E w_3 dX11_asks_8 (by decide) (fun c_4 => ?_) (fun c_4 => ?_)
  · skip
    refine lv_iconst (v := -1) E.1.1 E.1.2.1 dX11_asks_18 (by decide) ?_
    have r_5 : (-1 : Int32).toInt = -1 := tI_m1
    exact ret_I (u := _) E hr hlk rfl B (by omega) dX11_asks_19
  · exfalso; omega
set_option maxHeartbeats 4000000 in
set_option maxRecDepth 100000 in
theorem x_11_token (l : Launch) (D : va_G) (ct : Nat → ClassId) (tN : Nat) (ad : Nat → Nat) (iv : Nat → Int32) (ia : Nat → Nat → Int32) (la : Nat → Nat → Int64) (pt : Nat → Option Nat) (ra : Nat → Nat → Option Nat) (R : va_W) (p0 : Int32) (p1 : Int32) (p2 : Int32) (h3 : (iv 3).toInt = 0) : MI l D (TY ct) tN yX11_token cX11_token 5 (some .int) ({ frames := 1, cells := 0, slots := 0, locals := 21 } : Room) [.ref (ad 0), .int p0, .int p1, .int p2] (XW ct ad iv ia la pt ra R) (fun (v : Int32) (u : va_W) => v.toInt = -1) (fun u => u) 0 0 := by
  intro sz
  refine Met.ofE (Qc := fun A => va_Qi (fun (v : Int32) (u : va_W) => v.toInt = -1) (BW D A (fun u => u)) A) (by decide) (Nat.le_of_ble_eq_true rfl) ?_
  intro p e s m args below meth c A ls hsz E hr hlk hnm B hl
  have hl : lv_has ls 5 [(0, .ref (ad 0)), (1, .int p0), (2, .int p1), (3, .int p2)] := hl
  refine lv_aload_n E.1.1 E.1.2.1 dX11_token_0 rfl (lv_at hl 0 rfl) ?_
  refine row_get (v := .ref (ad 6)) E B iX11 rfl 3 (by decide) mw_388 0 rfl rfl dX11_token_1 ?_
  refine lv_iload_n E.1.1 E.1.2.1 dX11_token_4 rfl (lv_at hl 1 rfl) ?_
  refine call_VI (kn := 1) E B (x_9_has l D ct tN ad iv ia la pt ra R  p0 h3) (good_V mw_455 mw_456 mw_457 mw_3 mw_458) 6 rfl rfl ⟨rfl, by decide +kernel⟩ rfl rfl rfl ⟨by decide, by decide⟩ rfl hl (Nat.le_of_ble_eq_true rfl) dX11_token_5 ⟨Nat.le_of_ble_eq_true rfl, Nat.le_of_ble_eq_true rfl⟩ (fun v_1 u_2 H locs w_3 B => ?_)
  have w_3 : v_1.toInt = 0 := w_3
  have B : Hp D A s.heap (XW ct ad iv ia la pt ra R) H locs := B
  refine at_n (n := 8) (k1 := 0) (k2 := 0) rfl rfl rfl ?_
  refine b_eq (tgt := 18) E w_3 dX11_token_8 (by decide) (fun c_4 => ?_) (fun c_4 => ?_)
  · skip
    refine lv_iconst (v := -1) E.1.1 E.1.2.1 dX11_token_18 (by decide) ?_
    have r_5 : (-1 : Int32).toInt = -1 := tI_m1
    exact ret_I (u := _) E hr hlk rfl B (by omega) dX11_token_19
  · exfalso; omega
set_option maxHeartbeats 4000000 in
set_option maxRecDepth 100000 in
theorem x_11_differ (l : Launch) (D : va_G) (ct : Nat → ClassId) (tN : Nat) (ad : Nat → Nat) (iv : Nat → Int32) (ia : Nat → Nat → Int32) (la : Nat → Nat → Int64) (pt : Nat → Option Nat) (ra : Nat → Nat → Option Nat) (R : va_W) (p0 : Int32) (p1 : Int32) (p2 : Int32) (h3 : (iv 3).toInt = 0) : MI l D (TY ct) tN yX11_differ cX11_differ 6 (some .int) ({ frames := 1, cells := 0, slots := 0, locals := 21 } : Room) [.ref (ad 0), .int p0, .int p1, .int p2] (XW ct ad iv ia la pt ra R) (fun (v : Int32) (u : va_W) => v.toInt = -1) (fun u => u) 0 0 := by
  intro sz
  refine Met.ofE (Qc := fun A => va_Qi (fun (v : Int32) (u : va_W) => v.toInt = -1) (BW D A (fun u => u)) A) (by decide) (Nat.le_of_ble_eq_true rfl) ?_
  intro p e s m args below meth c A ls hsz E hr hlk hnm B hl
  have hl : lv_has ls 6 [(0, .ref (ad 0)), (1, .int p0), (2, .int p1), (3, .int p2)] := hl
  refine lv_aload_n E.1.1 E.1.2.1 dX11_differ_0 rfl (lv_at hl 0 rfl) ?_
  refine row_get (v := .ref (ad 6)) E B iX11 rfl 3 (by decide) mw_388 0 rfl rfl dX11_differ_1 ?_
  refine lv_iload_n E.1.1 E.1.2.1 dX11_differ_4 rfl (lv_at hl 1 rfl) ?_
  refine call_VI (kn := 1) E B (x_9_has l D ct tN ad iv ia la pt ra R  p0 h3) (good_V mw_455 mw_456 mw_457 mw_3 mw_458) 6 rfl rfl ⟨rfl, by decide +kernel⟩ rfl rfl rfl ⟨by decide, by decide⟩ rfl hl (Nat.le_of_ble_eq_true rfl) dX11_differ_5 ⟨Nat.le_of_ble_eq_true rfl, Nat.le_of_ble_eq_true rfl⟩ (fun v_1 u_2 H locs w_3 B => ?_)
  have w_3 : v_1.toInt = 0 := w_3
  have B : Hp D A s.heap (XW ct ad iv ia la pt ra R) H locs := B
  refine at_n (n := 8) (k1 := 0) (k2 := 0) rfl rfl rfl ?_
  refine b_eq (tgt := 25) E w_3 dX11_differ_8 (by decide) (fun c_4 => ?_) (fun c_4 => ?_)
  · skip
    refine lv_iconst (v := -1) E.1.1 E.1.2.1 dX11_differ_25 (by decide) ?_
    have r_5 : (-1 : Int32).toInt = -1 := tI_m1
    exact ret_I (u := _) E hr hlk rfl B (by omega) dX11_differ_26
  · exfalso; omega
set_option maxHeartbeats 4000000 in
set_option maxRecDepth 100000 in
theorem x_11_render (l : Launch) (D : va_G) (ct : Nat → ClassId) (tN : Nat) (ad : Nat → Nat) (iv : Nat → Int32) (ia : Nat → Nat → Int32) (la : Nat → Nat → Int64) (pt : Nat → Option Nat) (ra : Nat → Nat → Option Nat) (R : va_W) (p0 : Int32) (p1 : Int32) (p2 : Int32) (h7 : (iv 7).toInt = 0) : MI l D (TY ct) tN yX11_render cX11_render 6 (some .int) ({ frames := 1, cells := 0, slots := 0, locals := 21 } : Room) [.ref (ad 0), .int p0, .int p1, .int p2] (XW ct ad iv ia la pt ra R) (fun (v : Int32) (u : va_W) => v.toInt = -1) (fun u => u) 0 0 := by
  intro sz
  refine Met.ofE (Qc := fun A => va_Qi (fun (v : Int32) (u : va_W) => v.toInt = -1) (BW D A (fun u => u)) A) (by decide) (Nat.le_of_ble_eq_true rfl) ?_
  intro p e s m args below meth c A ls hsz E hr hlk hnm B hl
  have hl : lv_has ls 6 [(0, .ref (ad 0)), (1, .int p0), (2, .int p1), (3, .int p2)] := hl
  refine lv_aload_n E.1.1 E.1.2.1 dX11_render_0 rfl (lv_at hl 0 rfl) ?_
  refine row_get (v := .ref (ad 12)) E B iX11 rfl 4 (by decide) mw_389 0 rfl rfl dX11_render_1 ?_
  refine lv_iload_n E.1.1 E.1.2.1 dX11_render_4 rfl (lv_at hl 1 rfl) ?_
  refine call_VI (kn := 1) E B (x_4_hasScholar l D ct tN ad iv ia la pt ra R  p0 h7) (good_V mw_857 mw_858 mw_859 mw_4 mw_860) 12 rfl rfl ⟨rfl, by decide +kernel⟩ rfl rfl rfl ⟨by decide, by decide⟩ rfl hl (Nat.le_of_ble_eq_true rfl) dX11_render_5 ⟨Nat.le_of_ble_eq_true rfl, Nat.le_of_ble_eq_true rfl⟩ (fun v_1 u_2 H locs w_3 B => ?_)
  have w_3 : v_1.toInt = 0 := w_3
  have B : Hp D A s.heap (XW ct ad iv ia la pt ra R) H locs := B
  refine at_n (n := 8) (k1 := 0) (k2 := 0) rfl rfl rfl ?_
  refine b_eq (tgt := 43) E w_3 dX11_render_8 (by decide) (fun c_4 => ?_) (fun c_4 => ?_)
  · skip
    refine lv_iconst (v := -1) E.1.1 E.1.2.1 dX11_render_43 (by decide) ?_
    have r_5 : (-1 : Int32).toInt = -1 := tI_m1
    exact ret_I (u := _) E hr hlk rfl B (by omega) dX11_render_44
  · exfalso; omega
set_option maxHeartbeats 4000000 in
set_option maxRecDepth 100000 in
theorem x_11_vote (l : Launch) (D : va_G) (ct : Nat → ClassId) (tN : Nat) (ad : Nat → Nat) (iv : Nat → Int32) (ia : Nat → Nat → Int32) (la : Nat → Nat → Int64) (pt : Nat → Option Nat) (ra : Nat → Nat → Option Nat) (R : va_W) (p0 : Int32) (p1 : Int32) (p2 : Int32) (h10 : (iv 10).toInt = 0) : MI l D (TY ct) tN yX11_vote cX11_vote 5 (some .boolean) ({ frames := 1, cells := 0, slots := 0, locals := 21 } : Room) [.ref (ad 0), .int p0, .int p1, .int p2] (XW ct ad iv ia la pt ra R) (fun (v : Int32) (u : va_W) => v.toInt = 0) (fun u => u) 0 0 := by
  intro sz
  refine Met.ofE (Qc := fun A => va_Qi (fun (v : Int32) (u : va_W) => v.toInt = 0) (BW D A (fun u => u)) A) (by decide) (Nat.le_of_ble_eq_true rfl) ?_
  intro p e s m args below meth c A ls hsz E hr hlk hnm B hl
  have hl : lv_has ls 5 [(0, .ref (ad 0)), (1, .int p0), (2, .int p1), (3, .int p2)] := hl
  refine lv_aload_n E.1.1 E.1.2.1 dX11_vote_0 rfl (lv_at hl 0 rfl) ?_
  refine row_get (v := .ref (ad 27)) E B iX11 rfl 6 (by decide) mw_391 0 rfl rfl dX11_vote_1 ?_
  refine lv_iload_n E.1.1 E.1.2.1 dX11_vote_4 rfl (lv_at hl 2 rfl) ?_
  refine call_VQ (kn := 1) E B (x_8_at l D ct tN ad iv ia la pt ra R  p1 h10) (good_V mw_936 mw_937 mw_938 mw_6 mw_939) 27 rfl rfl ⟨rfl, by decide +kernel⟩ rfl rfl rfl ⟨by decide, by decide⟩ rfl hl (Nat.le_of_ble_eq_true rfl) dX11_vote_5 ⟨Nat.le_of_ble_eq_true rfl, Nat.le_of_ble_eq_true rfl⟩ (fun v_1 u_2 H locs w_3 B => ?_)
  have w_3 : v_1 = none := w_3
  subst w_3
  have B : Hp D A s.heap (XW ct ad iv ia la pt ra R) H locs := B
  refine at_n (n := 8) (k1 := 0) (k2 := 0) rfl rfl rfl ?_
  refine lv_astoreN (lv' := [(4, .null), (0, .ref (ad 0)), (1, .int p0), (2, .int p1), (3, .int p2)]) E.1.1 E.1.2.1 dX11_vote_8 hl (by decide) rfl (fun ls hl => ?_)
  refine lv_aloadN E.1.1 E.1.2.1 dX11_vote_10 (lv_at hl 0 rfl) ?_
  refine lv_ifnullN (tgt := 34) E.1.1 E.1.2.1 dX11_vote_12 (by decide) ?_
  refine lv_iconst (v := 0) E.1.1 E.1.2.1 dX11_vote_34 (by decide) ?_
  have r_4 : (0 : Int32).toInt = 0 := tI_0
  exact ret_I (u := _) E hr hlk (narrow_z (by omega)) B (by omega) dX11_vote_35
set_option maxHeartbeats 4000000 in
set_option maxRecDepth 100000 in
theorem x_11_close (l : Launch) (D : va_G) (ct : Nat → ClassId) (tN : Nat) (ad : Nat → Nat) (iv : Nat → Int32) (ia : Nat → Nat → Int32) (la : Nat → Nat → Int64) (pt : Nat → Option Nat) (ra : Nat → Nat → Option Nat) (R : va_W) (p0 : Int32) (h10 : (iv 10).toInt = 0) : MI l D (TY ct) tN yX11_close cX11_close 7 (some .int) ({ frames := 1, cells := 0, slots := 0, locals := 21 } : Room) [.ref (ad 0), .int p0] (XW ct ad iv ia la pt ra R) (fun (v : Int32) (u : va_W) => v.toInt = -1) (fun u => u) 0 0 := by
  intro sz
  refine Met.ofE (Qc := fun A => va_Qi (fun (v : Int32) (u : va_W) => v.toInt = -1) (BW D A (fun u => u)) A) (by decide) (Nat.le_of_ble_eq_true rfl) ?_
  intro p e s m args below meth c A ls hsz E hr hlk hnm B hl
  have hl : lv_has ls 7 [(0, .ref (ad 0)), (1, .int p0)] := hl
  refine lv_aload_n E.1.1 E.1.2.1 dX11_close_0 rfl (lv_at hl 0 rfl) ?_
  refine row_get (v := .ref (ad 27)) E B iX11 rfl 6 (by decide) mw_391 0 rfl rfl dX11_close_1 ?_
  refine lv_iload_n E.1.1 E.1.2.1 dX11_close_4 rfl (lv_at hl 1 rfl) ?_
  refine call_VQ (kn := 1) E B (x_8_at l D ct tN ad iv ia la pt ra R  p0 h10) (good_V mw_936 mw_937 mw_938 mw_6 mw_939) 27 rfl rfl ⟨rfl, by decide +kernel⟩ rfl rfl rfl ⟨by decide, by decide⟩ rfl hl (Nat.le_of_ble_eq_true rfl) dX11_close_5 ⟨Nat.le_of_ble_eq_true rfl, Nat.le_of_ble_eq_true rfl⟩ (fun v_1 u_2 H locs w_3 B => ?_)
  have w_3 : v_1 = none := w_3
  subst w_3
  have B : Hp D A s.heap (XW ct ad iv ia la pt ra R) H locs := B
  refine at_n (n := 8) (k1 := 0) (k2 := 0) rfl rfl rfl ?_
  refine lv_astore_nN (lv' := [(2, .null), (0, .ref (ad 0)), (1, .int p0)]) E.1.1 E.1.2.1 dX11_close_8 rfl hl (by decide) rfl (fun ls hl => ?_)
  refine lv_aload_nN E.1.1 E.1.2.1 dX11_close_9 rfl (lv_at hl 0 rfl) ?_
  refine lv_ifnullN (tgt := 20) E.1.1 E.1.2.1 dX11_close_10 (by decide) ?_
  refine lv_iconst (v := -1) E.1.1 E.1.2.1 dX11_close_20 (by decide) ?_
  have r_4 : (-1 : Int32).toInt = -1 := tI_m1
  exact ret_I (u := _) E hr hlk rfl B (by omega) dX11_close_21
set_option maxHeartbeats 4000000 in
set_option maxRecDepth 100000 in
theorem x_11_voids (l : Launch) (D : va_G) (ct : Nat → ClassId) (tN : Nat) (ad : Nat → Nat) (iv : Nat → Int32) (ia : Nat → Nat → Int32) (la : Nat → Nat → Int64) (pt : Nat → Option Nat) (ra : Nat → Nat → Option Nat) (R : va_W) (p0 : Int32) (h7 : (iv 7).toInt = 0) : MI l D (TY ct) tN yX11_voids cX11_voids 2 (some .int) ({ frames := 1, cells := 0, slots := 0, locals := 21 } : Room) [.ref (ad 0), .int p0] (XW ct ad iv ia la pt ra R) (fun (v : Int32) (u : va_W) => v.toInt = -1) (fun u => u) 0 0 := by
  intro sz
  refine Met.ofE (Qc := fun A => va_Qi (fun (v : Int32) (u : va_W) => v.toInt = -1) (BW D A (fun u => u)) A) (by decide) (Nat.le_of_ble_eq_true rfl) ?_
  intro p e s m args below meth c A ls hsz E hr hlk hnm B hl
  have hl : lv_has ls 2 [(0, .ref (ad 0)), (1, .int p0)] := hl
  refine lv_aload_n E.1.1 E.1.2.1 dX11_voids_0 rfl (lv_at hl 0 rfl) ?_
  refine row_get (v := .ref (ad 12)) E B iX11 rfl 4 (by decide) mw_389 0 rfl rfl dX11_voids_1 ?_
  refine lv_iload_n E.1.1 E.1.2.1 dX11_voids_4 rfl (lv_at hl 1 rfl) ?_
  refine call_VI (kn := 1) E B (x_4_hasScholar l D ct tN ad iv ia la pt ra R  p0 h7) (good_V mw_857 mw_858 mw_859 mw_4 mw_860) 12 rfl rfl ⟨rfl, by decide +kernel⟩ rfl rfl rfl ⟨by decide, by decide⟩ rfl hl (Nat.le_of_ble_eq_true rfl) dX11_voids_5 ⟨Nat.le_of_ble_eq_true rfl, Nat.le_of_ble_eq_true rfl⟩ (fun v_1 u_2 H locs w_3 B => ?_)
  have w_3 : v_1.toInt = 0 := w_3
  have B : Hp D A s.heap (XW ct ad iv ia la pt ra R) H locs := B
  refine at_n (n := 8) (k1 := 0) (k2 := 0) rfl rfl rfl ?_
  refine b_eq (tgt := 22) E w_3 dX11_voids_8 (by decide) (fun c_4 => ?_) (fun c_4 => ?_)
  · skip
    refine lv_iconst (v := -1) E.1.1 E.1.2.1 dX11_voids_22 (by decide) ?_
    have r_5 : (-1 : Int32).toInt = -1 := tI_m1
    exact ret_I (u := _) E hr hlk rfl B (by omega) dX11_voids_23
  · exfalso; omega
set_option maxHeartbeats 4000000 in
set_option maxRecDepth 100000 in
theorem x_11_fixed (l : Launch) (D : va_G) (ct : Nat → ClassId) (tN : Nat) (ad : Nat → Nat) (iv : Nat → Int32) (ia : Nat → Nat → Int32) (la : Nat → Nat → Int64) (pt : Nat → Option Nat) (ra : Nat → Nat → Option Nat) (R : va_W) (p0 : Int32) (g29 : ∀ j, (ia 29 j).toInt = -1) : MI l D (TY ct) tN yX11_fixed cX11_fixed 2 (some .int) ({ frames := 1, cells := 0, slots := 0, locals := 21 } : Room) [.ref (ad 0), .int p0] (XW ct ad iv ia la pt ra R) (fun (v : Int32) (u : va_W) => v.toInt = -1) (fun u => u) 0 0 := by
  intro sz
  refine Met.ofE (Qc := fun A => va_Qi (fun (v : Int32) (u : va_W) => v.toInt = -1) (BW D A (fun u => u)) A) (by decide) (Nat.le_of_ble_eq_true rfl) ?_
  intro p e s m args below meth c A ls hsz E hr hlk hnm B hl
  have hl : lv_has ls 2 [(0, .ref (ad 0)), (1, .int p0)] := hl
  refine lv_aload_n E.1.1 E.1.2.1 dX11_fixed_0 rfl (lv_at hl 0 rfl) ?_
  refine row_get (v := .ref (ad 27)) E B iX11 rfl 6 (by decide) mw_391 0 rfl rfl dX11_fixed_1 ?_
  refine lv_iload_n E.1.1 E.1.2.1 dX11_fixed_4 rfl (lv_at hl 1 rfl) ?_
  refine call_VI (kn := 1) E B (x_8_fixedNumber l D ct tN ad iv ia la pt ra R  p0 g29) (good_V mw_1056 mw_993 mw_994 mw_6 mw_995) 27 rfl rfl ⟨rfl, by decide +kernel⟩ rfl rfl rfl ⟨by decide, by decide⟩ rfl hl (Nat.le_of_ble_eq_true rfl) dX11_fixed_5 ⟨Nat.le_of_ble_eq_true rfl, Nat.le_of_ble_eq_true rfl⟩ (fun v_1 u_2 H locs w_3 B => ?_)
  have w_3 : v_1.toInt = -1 := w_3
  have B : Hp D A s.heap (XW ct ad iv ia la pt ra R) H locs := B
  refine at_n (n := 8) (k1 := 0) (k2 := 0) rfl rfl rfl ?_
  have r_4 : v_1.toInt = -1 := w_3
  exact ret_I (u := _) E hr hlk rfl B (by omega) dX11_fixed_8
set_option maxHeartbeats 4000000 in
set_option maxRecDepth 100000 in
theorem x_11_fixedOn (l : Launch) (D : va_G) (ct : Nat → ClassId) (tN : Nat) (ad : Nat → Nat) (iv : Nat → Int32) (ia : Nat → Nat → Int32) (la : Nat → Nat → Int64) (pt : Nat → Option Nat) (ra : Nat → Nat → Option Nat) (R : va_W) (p0 : Int32) (p1 : Int32) (h1 : (iv 1).toInt = 0) (h11 : (iv 11).toInt = 0) : MI l D (TY ct) tN yX11_fixedOn cX11_fixedOn 3 (some .int) ({ frames := 1, cells := 0, slots := 0, locals := 23 } : Room) [.ref (ad 0), .int p0, .int p1] (XW ct ad iv ia la pt ra R) (fun (v : Int32) (u : va_W) => v.toInt = -1) (fun u => u) 0 0 := by
  intro sz
  refine Met.ofE (Qc := fun A => va_Qi (fun (v : Int32) (u : va_W) => v.toInt = -1) (BW D A (fun u => u)) A) (by decide) (Nat.le_of_ble_eq_true rfl) ?_
  intro p e s m args below meth c A ls hsz E hr hlk hnm B hl
  have hl : lv_has ls 3 [(0, .ref (ad 0)), (1, .int p0), (2, .int p1)] := hl
  refine lv_aload_n E.1.1 E.1.2.1 dX11_fixedOn_0 rfl (lv_at hl 0 rfl) ?_
  refine lv_iload_n E.1.1 E.1.2.1 dX11_fixedOn_1 rfl (lv_at hl 2 rfl) ?_
  refine call_VI (kn := 1) E B (x_11_isPastDay l D ct tN ad iv ia la pt ra R  p1 h1) (good_V mw_1061 mw_1063 ms_42 mw_1 mw_1064) 0 rfl rfl ⟨rfl, by decide +kernel⟩ rfl rfl rfl ⟨by decide, by decide⟩ rfl hl (Nat.le_of_ble_eq_true rfl) dX11_fixedOn_2 ⟨Nat.le_of_ble_eq_true rfl, Nat.le_of_ble_eq_true rfl⟩ (fun v_1 u_2 H locs w_3 B => ?_)
  have w_3 : (p1.toInt = 0 ∧ v_1.toInt = 1) ∨ (¬ p1.toInt = 0 ∧ v_1.toInt = 0) := w_3
  have B : Hp D A s.heap (XW ct ad iv ia la pt ra R) H locs := B
  refine at_n (n := 5) (k1 := 0) (k2 := 0) rfl rfl rfl ?_
  refine b_eq (tgt := 20) E rfl dX11_fixedOn_5 (by decide) (fun c_4 => ?_) (fun c_4 => ?_)
  · skip
    refine lv_iconst (v := -1) E.1.1 E.1.2.1 dX11_fixedOn_20 (by decide) ?_
    have r_5 : (-1 : Int32).toInt = -1 := tI_m1
    exact ret_I (u := _) E hr hlk rfl B (by omega) dX11_fixedOn_21
  · skip
    refine lv_aload_n E.1.1 E.1.2.1 dX11_fixedOn_8 rfl (lv_at hl 0 rfl) ?_
    refine row_get (v := .ref (ad 27)) E B iX11 rfl 6 (by decide) mw_391 0 rfl rfl dX11_fixedOn_9 ?_
    refine lv_iload_n E.1.1 E.1.2.1 dX11_fixedOn_12 rfl (lv_at hl 1 rfl) ?_
    refine lv_iload_n E.1.1 E.1.2.1 dX11_fixedOn_13 rfl (lv_at hl 2 rfl) ?_
    refine call_VI (kn := 2) E B (x_8_fixedThen l D ct tN ad iv ia la pt ra R  p0 p1 h11) (good_V mw_1065 mw_1066 mw_1067 mw_6 mw_1068) 27 rfl rfl ⟨rfl, by decide +kernel⟩ rfl rfl rfl ⟨by decide, by decide⟩ rfl hl (Nat.le_of_ble_eq_true rfl) dX11_fixedOn_14 ⟨Nat.le_of_ble_eq_true rfl, Nat.le_of_ble_eq_true rfl⟩ (fun v_6 u_7 H locs w_8 B => ?_)
    have w_8 : v_6.toInt = -1 := w_8
    have B : Hp D A s.heap (XW ct ad iv ia la pt ra R) H locs := B
    refine at_n (n := 17) (k1 := 0) (k2 := 0) rfl rfl rfl ?_
    refine lv_goto (tgt := 21) E.1.1 E.1.2.1 dX11_fixedOn_17 (by decide) ?_
    have r_9 : v_6.toInt = -1 := w_8
    exact ret_I (u := _) E hr hlk rfl B (by omega) dX11_fixedOn_21
set_option maxHeartbeats 4000000 in
set_option maxRecDepth 100000 in
theorem x_11_breaches (l : Launch) (D : va_G) (ct : Nat → ClassId) (tN : Nat) (ad : Nat → Nat) (iv : Nat → Int32) (ia : Nat → Nat → Int32) (la : Nat → Nat → Int64) (pt : Nat → Option Nat) (ra : Nat → Nat → Option Nat) (R : va_W) (p0 : Int32) (h10 : (iv 10).toInt = 0) : MI l D (TY ct) tN yX11_breaches cX11_breaches 3 (some .int) ({ frames := 1, cells := 0, slots := 0, locals := 21 } : Room) [.ref (ad 0), .int p0] (XW ct ad iv ia la pt ra R) (fun (v : Int32) (u : va_W) => v.toInt = -1) (fun u => u) 0 0 := by
  intro sz
  refine Met.ofE (Qc := fun A => va_Qi (fun (v : Int32) (u : va_W) => v.toInt = -1) (BW D A (fun u => u)) A) (by decide) (Nat.le_of_ble_eq_true rfl) ?_
  intro p e s m args below meth c A ls hsz E hr hlk hnm B hl
  have hl : lv_has ls 3 [(0, .ref (ad 0)), (1, .int p0)] := hl
  refine lv_aload_n E.1.1 E.1.2.1 dX11_breaches_0 rfl (lv_at hl 0 rfl) ?_
  refine row_get (v := .ref (ad 27)) E B iX11 rfl 6 (by decide) mw_391 0 rfl rfl dX11_breaches_1 ?_
  refine lv_iload_n E.1.1 E.1.2.1 dX11_breaches_4 rfl (lv_at hl 1 rfl) ?_
  refine call_VQ (kn := 1) E B (x_8_at l D ct tN ad iv ia la pt ra R  p0 h10) (good_V mw_936 mw_937 mw_938 mw_6 mw_939) 27 rfl rfl ⟨rfl, by decide +kernel⟩ rfl rfl rfl ⟨by decide, by decide⟩ rfl hl (Nat.le_of_ble_eq_true rfl) dX11_breaches_5 ⟨Nat.le_of_ble_eq_true rfl, Nat.le_of_ble_eq_true rfl⟩ (fun v_1 u_2 H locs w_3 B => ?_)
  have w_3 : v_1 = none := w_3
  subst w_3
  have B : Hp D A s.heap (XW ct ad iv ia la pt ra R) H locs := B
  refine at_n (n := 8) (k1 := 0) (k2 := 0) rfl rfl rfl ?_
  refine lv_astore_nN (lv' := [(2, .null), (0, .ref (ad 0)), (1, .int p0)]) E.1.1 E.1.2.1 dX11_breaches_8 rfl hl (by decide) rfl (fun ls hl => ?_)
  refine lv_aload_nN E.1.1 E.1.2.1 dX11_breaches_9 rfl (lv_at hl 0 rfl) ?_
  refine lv_ifnonnullN E.1.1 E.1.2.1 dX11_breaches_10 ?_
  refine lv_iconst (v := -1) E.1.1 E.1.2.1 dX11_breaches_13 (by decide) ?_
  have r_4 : (-1 : Int32).toInt = -1 := tI_m1
  exact ret_I (u := _) E hr hlk rfl B (by omega) dX11_breaches_14
set_option maxHeartbeats 4000000 in
set_option maxRecDepth 100000 in
theorem x_11_breach (l : Launch) (D : va_G) (ct : Nat → ClassId) (tN : Nat) (ad : Nat → Nat) (iv : Nat → Int32) (ia : Nat → Nat → Int32) (la : Nat → Nat → Int64) (pt : Nat → Option Nat) (ra : Nat → Nat → Option Nat) (R : va_W) (p0 : Int32) (p1 : Int32) (p2 : Int32) (h10 : (iv 10).toInt = 0) : MI l D (TY ct) tN yX11_breach cX11_breach 5 (some .int) ({ frames := 1, cells := 0, slots := 0, locals := 21 } : Room) [.ref (ad 0), .int p0, .int p1, .int p2] (XW ct ad iv ia la pt ra R) (fun (v : Int32) (u : va_W) => v.toInt = -1) (fun u => u) 0 0 := by
  intro sz
  refine Met.ofE (Qc := fun A => va_Qi (fun (v : Int32) (u : va_W) => v.toInt = -1) (BW D A (fun u => u)) A) (by decide) (Nat.le_of_ble_eq_true rfl) ?_
  intro p e s m args below meth c A ls hsz E hr hlk hnm B hl
  have hl : lv_has ls 5 [(0, .ref (ad 0)), (1, .int p0), (2, .int p1), (3, .int p2)] := hl
  refine lv_aload_n E.1.1 E.1.2.1 dX11_breach_0 rfl (lv_at hl 0 rfl) ?_
  refine row_get (v := .ref (ad 27)) E B iX11 rfl 6 (by decide) mw_391 0 rfl rfl dX11_breach_1 ?_
  refine lv_iload_n E.1.1 E.1.2.1 dX11_breach_4 rfl (lv_at hl 1 rfl) ?_
  refine call_VQ (kn := 1) E B (x_8_at l D ct tN ad iv ia la pt ra R  p0 h10) (good_V mw_936 mw_937 mw_938 mw_6 mw_939) 27 rfl rfl ⟨rfl, by decide +kernel⟩ rfl rfl rfl ⟨by decide, by decide⟩ rfl hl (Nat.le_of_ble_eq_true rfl) dX11_breach_5 ⟨Nat.le_of_ble_eq_true rfl, Nat.le_of_ble_eq_true rfl⟩ (fun v_1 u_2 H locs w_3 B => ?_)
  have w_3 : v_1 = none := w_3
  subst w_3
  have B : Hp D A s.heap (XW ct ad iv ia la pt ra R) H locs := B
  refine at_n (n := 8) (k1 := 0) (k2 := 0) rfl rfl rfl ?_
  refine lv_astoreN (lv' := [(4, .null), (0, .ref (ad 0)), (1, .int p0), (2, .int p1), (3, .int p2)]) E.1.1 E.1.2.1 dX11_breach_8 hl (by decide) rfl (fun ls hl => ?_)
  refine lv_aloadN E.1.1 E.1.2.1 dX11_breach_10 (lv_at hl 0 rfl) ?_
  refine lv_ifnullN (tgt := 28) E.1.1 E.1.2.1 dX11_breach_12 (by decide) ?_
  refine lv_iconst (v := -1) E.1.1 E.1.2.1 dX11_breach_28 (by decide) ?_
  have r_4 : (-1 : Int32).toInt = -1 := tI_m1
  exact ret_I (u := _) E hr hlk rfl B (by omega) dX11_breach_29
set_option maxHeartbeats 4000000 in
set_option maxRecDepth 100000 in
theorem x_11_quarrel (l : Launch) (D : va_G) (ct : Nat → ClassId) (tN : Nat) (ad : Nat → Nat) (iv : Nat → Int32) (ia : Nat → Nat → Int32) (la : Nat → Nat → Int64) (pt : Nat → Option Nat) (ra : Nat → Nat → Option Nat) (R : va_W) (p0 : Int32) (p1 : Int32) (p2 : Int32) (h3 : (iv 3).toInt = 0) : MI l D (TY ct) tN yX11_quarrel cX11_quarrel 4 (some .int) ({ frames := 1, cells := 0, slots := 0, locals := 21 } : Room) [.ref (ad 0), .int p0, .int p1, .int p2] (XW ct ad iv ia la pt ra R) (fun (v : Int32) (u : va_W) => v.toInt = -1) (fun u => u) 0 0 := by
  intro sz
  refine Met.ofE (Qc := fun A => va_Qi (fun (v : Int32) (u : va_W) => v.toInt = -1) (BW D A (fun u => u)) A) (by decide) (Nat.le_of_ble_eq_true rfl) ?_
  intro p e s m args below meth c A ls hsz E hr hlk hnm B hl
  have hl : lv_has ls 4 [(0, .ref (ad 0)), (1, .int p0), (2, .int p1), (3, .int p2)] := hl
  refine lv_aload_n E.1.1 E.1.2.1 dX11_quarrel_0 rfl (lv_at hl 0 rfl) ?_
  refine row_get (v := .ref (ad 6)) E B iX11 rfl 3 (by decide) mw_388 0 rfl rfl dX11_quarrel_1 ?_
  refine lv_iload_n E.1.1 E.1.2.1 dX11_quarrel_4 rfl (lv_at hl 1 rfl) ?_
  refine call_VI (kn := 1) E B (x_9_has l D ct tN ad iv ia la pt ra R  p0 h3) (good_V mw_455 mw_456 mw_457 mw_3 mw_458) 6 rfl rfl ⟨rfl, by decide +kernel⟩ rfl rfl rfl ⟨by decide, by decide⟩ rfl hl (Nat.le_of_ble_eq_true rfl) dX11_quarrel_5 ⟨Nat.le_of_ble_eq_true rfl, Nat.le_of_ble_eq_true rfl⟩ (fun v_1 u_2 H locs w_3 B => ?_)
  have w_3 : v_1.toInt = 0 := w_3
  have B : Hp D A s.heap (XW ct ad iv ia la pt ra R) H locs := B
  refine at_n (n := 8) (k1 := 0) (k2 := 0) rfl rfl rfl ?_
  refine b_eq (tgt := 24) E w_3 dX11_quarrel_8 (by decide) (fun c_4 => ?_) (fun c_4 => ?_)
  · skip
    refine lv_iconst (v := -1) E.1.1 E.1.2.1 dX11_quarrel_24 (by decide) ?_
    have r_5 : (-1 : Int32).toInt = -1 := tI_m1
    exact ret_I (u := _) E hr hlk rfl B (by omega) dX11_quarrel_25
  · exfalso; omega
set_option maxHeartbeats 4000000 in
set_option maxRecDepth 100000 in
theorem x_11_unlike (l : Launch) (D : va_G) (ct : Nat → ClassId) (tN : Nat) (ad : Nat → Nat) (iv : Nat → Int32) (ia : Nat → Nat → Int32) (la : Nat → Nat → Int64) (pt : Nat → Option Nat) (ra : Nat → Nat → Option Nat) (R : va_W) (p0 : Int32) (p1 : Int32) (h1 : (iv 1).toInt = 0) (h3 : (iv 3).toInt = 0) : MI l D (TY ct) tN yX11_unlike cX11_unlike 3 (some .int) ({ frames := 2, cells := 0, slots := 0, locals := 44 } : Room) [.ref (ad 0), .int p0, .int p1] (XW ct ad iv ia la pt ra R) (fun (v : Int32) (u : va_W) => v.toInt = -1) (fun u => u) 0 0 := by
  intro sz
  refine Met.ofE (Qc := fun A => va_Qi (fun (v : Int32) (u : va_W) => v.toInt = -1) (BW D A (fun u => u)) A) (by decide) (Nat.le_of_ble_eq_true rfl) ?_
  intro p e s m args below meth c A ls hsz E hr hlk hnm B hl
  have hl : lv_has ls 3 [(0, .ref (ad 0)), (1, .int p0), (2, .int p1)] := hl
  refine lv_iload_n E.1.1 E.1.2.1 dX11_unlike_0 rfl (lv_at hl 1 rfl) ?_
  refine b_lt (tgt := 13) E rfl dX11_unlike_1 (by decide) (fun c_1 => ?_) (fun c_1 => ?_)
  · skip
    refine lv_iconst (v := -1) E.1.1 E.1.2.1 dX11_unlike_13 (by decide) ?_
    have r_2 : (-1 : Int32).toInt = -1 := tI_m1
    exact ret_I (u := _) E hr hlk rfl B (by omega) dX11_unlike_14
  · skip
    refine lv_iload_n E.1.1 E.1.2.1 dX11_unlike_4 rfl (lv_at hl 2 rfl) ?_
    refine b_lt (tgt := 13) E rfl dX11_unlike_5 (by decide) (fun c_3 => ?_) (fun c_3 => ?_)
    · skip
      refine lv_iconst (v := -1) E.1.1 E.1.2.1 dX11_unlike_13 (by decide) ?_
      have r_4 : (-1 : Int32).toInt = -1 := tI_m1
      exact ret_I (u := _) E hr hlk rfl B (by omega) dX11_unlike_14
    · skip
      refine lv_iload_n E.1.1 E.1.2.1 dX11_unlike_8 rfl (lv_at hl 2 rfl) ?_
      refine lv_iconst (v := 3) E.1.1 E.1.2.1 dX11_unlike_9 (by decide) ?_
      refine c_le (tgt := 15) E rfl tI_3 dX11_unlike_10 (by decide) (fun c_5 => ?_) (fun c_5 => ?_)
      · skip
        refine lv_aload_n E.1.1 E.1.2.1 dX11_unlike_15 rfl (lv_at hl 0 rfl) ?_
        refine row_get (v := .ref (ad 35)) E B iX11 rfl 9 (by decide) mw_394 0 rfl rfl dX11_unlike_16 ?_
        refine lv_aload_n E.1.1 E.1.2.1 dX11_unlike_19 rfl (lv_at hl 0 rfl) ?_
        refine row_get (v := .int (iv 1)) E B iX11 rfl 13 (by decide) mw_398 0 rfl rfl dX11_unlike_20 ?_
        refine lv_iload_n E.1.1 E.1.2.1 dX11_unlike_23 rfl (lv_at hl 1 rfl) ?_
        refine call_VI (kn := 2) E B (x_1_seekUnlike l D ct tN ad iv ia la pt ra R  ((iv 1)) p0 h3) (good_V mw_1145 mw_1146 mw_1147 mw_9 mw_1148) 35 rfl rfl ⟨rfl, by decide +kernel⟩ rfl rfl rfl ⟨by decide, by decide⟩ rfl hl (Nat.le_of_ble_eq_true rfl) dX11_unlike_24 ⟨Nat.le_of_ble_eq_true rfl, Nat.le_of_ble_eq_true rfl⟩ (fun v_6 u_7 H locs w_8 B => ?_)
        obtain ⟨w_8, h_9⟩ := w_8
        have h_9 : (u_7 29).toInt = 0 := h_9
        have w_8 : v_6.toInt = 0 := w_8
        have B : Hp D A s.heap (XW ct ad u_7 ia la pt ra R) H locs := B
        refine at_n (n := 27) (k1 := 0) (k2 := 0) rfl rfl rfl ?_
        refine b_eq (tgt := 41) E w_8 dX11_unlike_27 (by decide) (fun c_10 => ?_) (fun c_10 => ?_)
        · skip
          refine lv_iconst (v := -1) E.1.1 E.1.2.1 dX11_unlike_41 (by decide) ?_
          have r_11 : (-1 : Int32).toInt = -1 := tI_m1
          exact ret_I (u := _) E hr hlk rfl B (by omega) dX11_unlike_42
        · exfalso; omega
      · skip
        refine lv_iconst (v := -1) E.1.1 E.1.2.1 dX11_unlike_13 (by decide) ?_
        have r_12 : (-1 : Int32).toInt = -1 := tI_m1
        exact ret_I (u := _) E hr hlk rfl B (by omega) dX11_unlike_14
set_option maxHeartbeats 4000000 in
set_option maxRecDepth 100000 in
theorem x_11_option (l : Launch) (D : va_G) (ct : Nat → ClassId) (tN : Nat) (ad : Nat → Nat) (iv : Nat → Int32) (ia : Nat → Nat → Int32) (la : Nat → Nat → Int64) (pt : Nat → Option Nat) (ra : Nat → Nat → Option Nat) (R : va_W) (p0 : Int32) (p1 : Int32) (h2 : (iv 2).toInt = 0) : MI l D (TY ct) tN yX11_option cX11_option 3 (some .boolean) ({ frames := 1, cells := 0, slots := 0, locals := 21 } : Room) [.ref (ad 0), .int p0, .int p1] (XW ct ad iv ia la pt ra R) (fun (v : Int32) (u : va_W) => v.toInt = 0) (fun u => u) 0 0 := by
  intro sz
  refine Met.ofE (Qc := fun A => va_Qi (fun (v : Int32) (u : va_W) => v.toInt = 0) (BW D A (fun u => u)) A) (by decide) (Nat.le_of_ble_eq_true rfl) ?_
  intro p e s m args below meth c A ls hsz E hr hlk hnm B hl
  have hl : lv_has ls 3 [(0, .ref (ad 0)), (1, .int p0), (2, .int p1)] := hl
  refine lv_iload_n E.1.1 E.1.2.1 dX11_option_0 rfl (lv_at hl 1 rfl) ?_
  refine call_SI (kn := 1) E B (x_11_isSign l D ct tN ad iv ia la pt ra R  p0 ) (good_S mw_1190 mw_1191 mw_1 mw_1192) (by decide +kernel) rfl rfl rfl ⟨by decide, by decide⟩ rfl hl (Nat.le_of_ble_eq_true rfl) dX11_option_1 ⟨Nat.le_of_ble_eq_true rfl, Nat.le_of_ble_eq_true rfl⟩ (fun v_1 u_2 H locs w_3 B => ?_)
  have w_3 : (0 ≤ p0.toInt ∧ p0.toInt ≤ 39 ∧ v_1.toInt = 1) ∨ ((p0.toInt < 0 ∨ 39 < p0.toInt) ∧ v_1.toInt = 0) := w_3
  have B : Hp D A s.heap (XW ct ad iv ia la pt ra R) H locs := B
  refine at_n (n := 4) (k1 := 0) (k2 := 0) rfl rfl rfl ?_
  refine b_eq (tgt := 34) E rfl dX11_option_4 (by decide) (fun c_4 => ?_) (fun c_4 => ?_)
  · skip
    refine lv_iconst (v := 0) E.1.1 E.1.2.1 dX11_option_34 (by decide) ?_
    have r_5 : (0 : Int32).toInt = 0 := tI_0
    exact ret_I (u := _) E hr hlk (narrow_z (by omega)) B (by omega) dX11_option_35
  · skip
    refine lv_aload_n E.1.1 E.1.2.1 dX11_option_7 rfl (lv_at hl 0 rfl) ?_
    refine row_get (v := .ref (ad 3)) E B iX11 rfl 2 (by decide) mw_387 0 rfl rfl dX11_option_8 ?_
    refine lv_iload_n E.1.1 E.1.2.1 dX11_option_11 rfl (lv_at hl 2 rfl) ?_
    refine call_VI (kn := 1) E B (x_10_has l D ct tN ad iv ia la pt ra R  p1 h2) (good_V mw_510 mw_511 mw_512 mw_2 mw_513) 3 rfl rfl ⟨rfl, by decide +kernel⟩ rfl rfl rfl ⟨by decide, by decide⟩ rfl hl (Nat.le_of_ble_eq_true rfl) dX11_option_12 ⟨Nat.le_of_ble_eq_true rfl, Nat.le_of_ble_eq_true rfl⟩ (fun v_6 u_7 H locs w_8 B => ?_)
    have w_8 : v_6.toInt = 0 := w_8
    have B : Hp D A s.heap (XW ct ad iv ia la pt ra R) H locs := B
    refine at_n (n := 15) (k1 := 0) (k2 := 0) rfl rfl rfl ?_
    refine b_eq (tgt := 34) E w_8 dX11_option_15 (by decide) (fun c_9 => ?_) (fun c_9 => ?_)
    · skip
      refine lv_iconst (v := 0) E.1.1 E.1.2.1 dX11_option_34 (by decide) ?_
      have r_10 : (0 : Int32).toInt = 0 := tI_0
      exact ret_I (u := _) E hr hlk (narrow_z (by omega)) B (by omega) dX11_option_35
    · exfalso; omega
set_option maxHeartbeats 4000000 in
set_option maxRecDepth 100000 in
theorem x_11_apart (l : Launch) (D : va_G) (ct : Nat → ClassId) (tN : Nat) (ad : Nat → Nat) (iv : Nat → Int32) (ia : Nat → Nat → Int32) (la : Nat → Nat → Int64) (pt : Nat → Option Nat) (ra : Nat → Nat → Option Nat) (R : va_W) (p0 : Int32) (p1 : Int32) (l46 : ∀ j, la 46 j = 0) : MI l D (TY ct) tN yX11_apart cX11_apart 3 (some .boolean) ({ frames := 2, cells := 0, slots := 0, locals := 44 } : Room) [.ref (ad 0), .int p0, .int p1] (XW ct ad iv ia la pt ra R) (fun (v : Int32) (u : va_W) => ((0 ≤ p0.toInt ∧ p0.toInt ≤ 39 ∧ 0 ≤ p1.toInt ∧ p1.toInt ≤ 39 ∧ ¬ p0.toInt = p1.toInt) ∧ v.toInt = 1) ∨ (¬ (0 ≤ p0.toInt ∧ p0.toInt ≤ 39 ∧ 0 ≤ p1.toInt ∧ p1.toInt ≤ 39 ∧ ¬ p0.toInt = p1.toInt) ∧ v.toInt = 0)) (fun u => u) 0 0 := by
  intro sz
  refine Met.ofE (Qc := fun A => va_Qi (fun (v : Int32) (u : va_W) => ((0 ≤ p0.toInt ∧ p0.toInt ≤ 39 ∧ 0 ≤ p1.toInt ∧ p1.toInt ≤ 39 ∧ ¬ p0.toInt = p1.toInt) ∧ v.toInt = 1) ∨ (¬ (0 ≤ p0.toInt ∧ p0.toInt ≤ 39 ∧ 0 ≤ p1.toInt ∧ p1.toInt ≤ 39 ∧ ¬ p0.toInt = p1.toInt) ∧ v.toInt = 0)) (BW D A (fun u => u)) A) (by decide) (Nat.le_of_ble_eq_true rfl) ?_
  intro p e s m args below meth c A ls hsz E hr hlk hnm B hl
  have hl : lv_has ls 3 [(0, .ref (ad 0)), (1, .int p0), (2, .int p1)] := hl
  refine lv_iload_n E.1.1 E.1.2.1 dX11_apart_0 rfl (lv_at hl 1 rfl) ?_
  refine call_SI (kn := 1) E B (x_11_isSign l D ct tN ad iv ia la pt ra R  p0 ) (good_S mw_1190 mw_1191 mw_1 mw_1192) (by decide +kernel) rfl rfl rfl ⟨by decide, by decide⟩ rfl hl (Nat.le_of_ble_eq_true rfl) dX11_apart_1 ⟨Nat.le_of_ble_eq_true rfl, Nat.le_of_ble_eq_true rfl⟩ (fun v_1 u_2 H locs w_3 B => ?_)
  have w_3 : (0 ≤ p0.toInt ∧ p0.toInt ≤ 39 ∧ v_1.toInt = 1) ∨ ((p0.toInt < 0 ∨ 39 < p0.toInt) ∧ v_1.toInt = 0) := w_3
  have B : Hp D A s.heap (XW ct ad iv ia la pt ra R) H locs := B
  refine at_n (n := 4) (k1 := 0) (k2 := 0) rfl rfl rfl ?_
  refine b_eq (tgt := 35) E rfl dX11_apart_4 (by decide) (fun c_4 => ?_) (fun c_4 => ?_)
  · skip
    refine lv_iconst (v := 0) E.1.1 E.1.2.1 dX11_apart_35 (by decide) ?_
    have r_5 : (0 : Int32).toInt = 0 := tI_0
    exact ret_I (u := _) E hr hlk (narrow_z (by omega)) B (by omega) dX11_apart_36
  · skip
    refine lv_iload_n E.1.1 E.1.2.1 dX11_apart_7 rfl (lv_at hl 2 rfl) ?_
    refine call_SI (kn := 1) E B (x_11_isSign l D ct tN ad iv ia la pt ra R  p1 ) (good_S mw_1190 mw_1191 mw_1 mw_1192) (by decide +kernel) rfl rfl rfl ⟨by decide, by decide⟩ rfl hl (Nat.le_of_ble_eq_true rfl) dX11_apart_8 ⟨Nat.le_of_ble_eq_true rfl, Nat.le_of_ble_eq_true rfl⟩ (fun v_6 u_7 H locs w_8 B => ?_)
    have w_8 : (0 ≤ p1.toInt ∧ p1.toInt ≤ 39 ∧ v_6.toInt = 1) ∨ ((p1.toInt < 0 ∨ 39 < p1.toInt) ∧ v_6.toInt = 0) := w_8
    have B : Hp D A s.heap (XW ct ad iv ia la pt ra R) H locs := B
    refine at_n (n := 11) (k1 := 0) (k2 := 0) rfl rfl rfl ?_
    refine b_eq (tgt := 35) E rfl dX11_apart_11 (by decide) (fun c_9 => ?_) (fun c_9 => ?_)
    · skip
      refine lv_iconst (v := 0) E.1.1 E.1.2.1 dX11_apart_35 (by decide) ?_
      have r_10 : (0 : Int32).toInt = 0 := tI_0
      exact ret_I (u := _) E hr hlk (narrow_z (by omega)) B (by omega) dX11_apart_36
    · skip
      refine lv_iload_n E.1.1 E.1.2.1 dX11_apart_14 rfl (lv_at hl 1 rfl) ?_
      refine lv_iload_n E.1.1 E.1.2.1 dX11_apart_15 rfl (lv_at hl 2 rfl) ?_
      refine c_eq (tgt := 35) E rfl rfl dX11_apart_16 (by decide) (fun c_11 => ?_) (fun c_11 => ?_)
      · skip
        refine lv_iconst (v := 0) E.1.1 E.1.2.1 dX11_apart_35 (by decide) ?_
        have r_12 : (0 : Int32).toInt = 0 := tI_0
        exact ret_I (u := _) E hr hlk (narrow_z (by omega)) B (by omega) dX11_apart_36
      · skip
        refine lv_aload_n E.1.1 E.1.2.1 dX11_apart_19 rfl (lv_at hl 0 rfl) ?_
        refine row_get (v := .ref (ad 42)) E B iX11 rfl 10 (by decide) mw_395 0 rfl rfl dX11_apart_20 ?_
        refine lv_iload_n E.1.1 E.1.2.1 dX11_apart_23 rfl (lv_at hl 1 rfl) ?_
        refine lv_iload_n E.1.1 E.1.2.1 dX11_apart_24 rfl (lv_at hl 2 rfl) ?_
        refine call_VI (kn := 2) E B (x_0_part l D ct tN ad iv ia la pt ra R  p0 p1 l46 (by omega) (by omega) (by omega) (by omega)) (good_V mw_1209 mw_1210 mw_1211 mw_10 mw_1212) 42 rfl rfl ⟨rfl, by decide +kernel⟩ rfl rfl rfl ⟨by decide, by decide⟩ rfl hl (Nat.le_of_ble_eq_true rfl) dX11_apart_25 ⟨Nat.le_of_ble_eq_true rfl, Nat.le_of_ble_eq_true rfl⟩ (fun v_13 u_14 H locs w_15 B => ?_)
        have w_15 : v_13.toInt = 1 := w_15
        have B : Hp D A s.heap (_) H locs := B
        refine at_n (n := 28) (k1 := 0) (k2 := 0) rfl rfl rfl ?_
        refine b_eq (tgt := 35) E w_15 dX11_apart_28 (by decide) (fun c_16 => ?_) (fun c_16 => ?_)
        · exfalso; omega
        · skip
          refine lv_iconst (v := 1) E.1.1 E.1.2.1 dX11_apart_31 (by decide) ?_
          refine lv_goto (tgt := 36) E.1.1 E.1.2.1 dX11_apart_32 (by decide) ?_
          have r_17 : (1 : Int32).toInt = 1 := tI_1
          exact ret_I (u := _) E hr hlk (narrow_z (by omega)) B (by omega) dX11_apart_36
set_option maxHeartbeats 4000000 in
set_option maxRecDepth 100000 in
theorem x_11_cost (l : Launch) (D : va_G) (ct : Nat → ClassId) (tN : Nat) (ad : Nat → Nat) (iv : Nat → Int32) (ia : Nat → Nat → Int32) (la : Nat → Nat → Int64) (pt : Nat → Option Nat) (ra : Nat → Nat → Option Nat) (R : va_W) (p0 : Int32) (h1 : (iv 1).toInt = 0) (h30 : (iv 30).toInt = 0) : MI l D (TY ct) tN yX11_cost cX11_cost 2 (some .int) ({ frames := 1, cells := 0, slots := 0, locals := 23 } : Room) [.ref (ad 0), .int p0] (XW ct ad iv ia la pt ra R) (fun (v : Int32) (u : va_W) => (p0.toInt = 0 ∧ v.toInt = 0) ∨ (¬ p0.toInt = 0 ∧ v.toInt = -1)) (fun u => u) 0 0 := by
  intro sz
  refine Met.ofE (Qc := fun A => va_Qi (fun (v : Int32) (u : va_W) => (p0.toInt = 0 ∧ v.toInt = 0) ∨ (¬ p0.toInt = 0 ∧ v.toInt = -1)) (BW D A (fun u => u)) A) (by decide) (Nat.le_of_ble_eq_true rfl) ?_
  intro p e s m args below meth c A ls hsz E hr hlk hnm B hl
  have hl : lv_has ls 2 [(0, .ref (ad 0)), (1, .int p0)] := hl
  refine lv_aload_n E.1.1 E.1.2.1 dX11_cost_0 rfl (lv_at hl 0 rfl) ?_
  refine row_get (v := .ref (ad 42)) E B iX11 rfl 10 (by decide) mw_395 0 rfl rfl dX11_cost_1 ?_
  refine lv_iload_n E.1.1 E.1.2.1 dX11_cost_4 rfl (lv_at hl 1 rfl) ?_
  refine call_VI (kn := 1) E B (x_0_readRow l D ct tN ad iv ia la pt ra R  p0 h30) (good_V mw_1221 mw_1222 mw_1223 mw_10 mw_1224) 42 rfl rfl ⟨rfl, by decide +kernel⟩ rfl rfl rfl ⟨by decide, by decide⟩ rfl hl (Nat.le_of_ble_eq_true rfl) dX11_cost_5 ⟨Nat.le_of_ble_eq_true rfl, Nat.le_of_ble_eq_true rfl⟩ (fun v_1 u_2 H locs w_3 B => ?_)
  have w_3 : (p0.toInt = 0 ∧ v_1.toInt = 1) ∨ (¬ p0.toInt = 0 ∧ v_1.toInt = 0) := w_3
  have B : Hp D A s.heap (XW ct ad iv ia la pt ra R) H locs := B
  refine at_n (n := 8) (k1 := 0) (k2 := 0) rfl rfl rfl ?_
  refine b_ne (tgt := 13) E rfl dX11_cost_8 (by decide) (fun c_4 => ?_) (fun c_4 => ?_)
  · skip
    refine lv_aload_n E.1.1 E.1.2.1 dX11_cost_13 rfl (lv_at hl 0 rfl) ?_
    refine row_get (v := .ref (ad 42)) E B iX11 rfl 10 (by decide) mw_395 0 rfl rfl dX11_cost_14 ?_
    refine lv_aload_n E.1.1 E.1.2.1 dX11_cost_17 rfl (lv_at hl 0 rfl) ?_
    refine row_get (v := .int (iv 1)) E B iX11 rfl 13 (by decide) mw_398 0 rfl rfl dX11_cost_18 ?_
    refine call_VV (kn := 1) E B (x_0_reckon l D ct tN ad iv ia la pt ra R  ((iv 1)) h30) (good_V mw_1225 mw_1226 mw_1227 mw_10 mw_1228) 42 rfl rfl ⟨rfl, by decide +kernel⟩ rfl rfl rfl ⟨by decide, by decide⟩ rfl hl (Nat.le_of_ble_eq_true rfl) dX11_cost_21 ⟨Nat.le_of_ble_eq_true rfl, Nat.le_of_ble_eq_true rfl⟩ (fun u_6 H locs w_7 B => ?_)
    have B : Hp D A s.heap (XW ct ad iv u_6 la pt ra R) H locs := B
    refine at_n (n := 24) (k1 := 0) (k2 := 0) rfl rfl rfl ?_
    refine lv_aload_n E.1.1 E.1.2.1 dX11_cost_24 rfl (lv_at hl 0 rfl) ?_
    refine row_get (v := .ref (ad 42)) E B iX11 rfl 10 (by decide) mw_395 0 rfl rfl dX11_cost_25 ?_
    refine call_VI (kn := 0) E B (x_0_priceOfRow l D ct tN ad iv u_6 la pt ra R   h30) (good_V mw_1260 mw_1261 mw_1262 mw_10 mw_1263) 42 rfl rfl ⟨rfl, by decide +kernel⟩ rfl rfl rfl ⟨by decide, by decide⟩ rfl hl (Nat.le_of_ble_eq_true rfl) dX11_cost_28 ⟨Nat.le_of_ble_eq_true rfl, Nat.le_of_ble_eq_true rfl⟩ (fun v_8 u_9 H locs w_10 B => ?_)
    have w_10 : v_8.toInt = 0 := w_10
    have B : Hp D A s.heap (XW ct ad iv u_6 la pt ra R) H locs := B
    refine at_n (n := 31) (k1 := 0) (k2 := 0) rfl rfl rfl ?_
    have r_11 : v_8.toInt = 0 := w_10
    exact ret_I (u := _) E hr hlk rfl B (by omega) dX11_cost_31
  · skip
    refine lv_iconst (v := -1) E.1.1 E.1.2.1 dX11_cost_11 (by decide) ?_
    have r_12 : (-1 : Int32).toInt = -1 := tI_m1
    exact ret_I (u := _) E hr hlk rfl B (by omega) dX11_cost_12
set_option maxHeartbeats 4000000 in
set_option maxRecDepth 100000 in
theorem x_11_one (l : Launch) (D : va_G) (ct : Nat → ClassId) (tN : Nat) (ad : Nat → Nat) (iv : Nat → Int32) (ia : Nat → Nat → Int32) (la : Nat → Nat → Int64) (pt : Nat → Option Nat) (ra : Nat → Nat → Option Nat) (R : va_W)  (h1 : (iv 1).toInt = 0) (h30 : (iv 30).toInt = 0) : MI l D (TY ct) tN yX11_one cX11_one 1 (some .int) ({ frames := 3, cells := 0, slots := 0, locals := 65 } : Room) [.ref (ad 0)] (XW ct ad iv ia la pt ra R) (fun (v : Int32) (u : va_W) => v.toInt = 0) (fun u => u) 0 0 := by
  intro sz
  refine Met.ofE (Qc := fun A => va_Qi (fun (v : Int32) (u : va_W) => v.toInt = 0) (BW D A (fun u => u)) A) (by decide) (Nat.le_of_ble_eq_true rfl) ?_
  intro p e s m args below meth c A ls hsz E hr hlk hnm B hl
  have hl : lv_has ls 1 [(0, .ref (ad 0))] := hl
  refine lv_aload_n E.1.1 E.1.2.1 dX11_one_0 rfl (lv_at hl 0 rfl) ?_
  refine row_get (v := .ref (ad 42)) E B iX11 rfl 10 (by decide) mw_395 0 rfl rfl dX11_one_1 ?_
  refine lv_aload_n E.1.1 E.1.2.1 dX11_one_4 rfl (lv_at hl 0 rfl) ?_
  refine row_get (v := .int (iv 1)) E B iX11 rfl 13 (by decide) mw_398 0 rfl rfl dX11_one_5 ?_
  refine call_VV (kn := 1) E B (x_0_reckon l D ct tN ad iv ia la pt ra R  ((iv 1)) h30) (good_V mw_1225 mw_1226 mw_1227 mw_10 mw_1228) 42 rfl rfl ⟨rfl, by decide +kernel⟩ rfl rfl rfl ⟨by decide, by decide⟩ rfl hl (Nat.le_of_ble_eq_true rfl) dX11_one_8 ⟨Nat.le_of_ble_eq_true rfl, Nat.le_of_ble_eq_true rfl⟩ (fun u_2 H locs w_3 B => ?_)
  have B : Hp D A s.heap (XW ct ad iv u_2 la pt ra R) H locs := B
  refine at_n (n := 11) (k1 := 0) (k2 := 0) rfl rfl rfl ?_
  refine lv_aload_n E.1.1 E.1.2.1 dX11_one_11 rfl (lv_at hl 0 rfl) ?_
  refine row_get (v := .ref (ad 42)) E B iX11 rfl 10 (by decide) mw_395 0 rfl rfl dX11_one_12 ?_
  refine call_VI (kn := 0) E B (x_0_leastPriced l D ct tN ad iv u_2 la pt ra R   h30) (good_V mw_1276 mw_1277 mw_1278 mw_10 mw_1279) 42 rfl rfl ⟨rfl, by decide +kernel⟩ rfl rfl rfl ⟨by decide, by decide⟩ rfl hl (Nat.le_of_ble_eq_true rfl) dX11_one_15 ⟨Nat.le_of_ble_eq_true rfl, Nat.le_of_ble_eq_true rfl⟩ (fun v_4 u_5 H locs w_6 B => ?_)
  have w_6 : v_4.toInt = 0 := w_6
  have B : Hp D A s.heap (_) H locs := B
  refine at_n (n := 18) (k1 := 0) (k2 := 0) rfl rfl rfl ?_
  have r_7 : v_4.toInt = 0 := w_6
  exact ret_I (u := _) E hr hlk rfl B (by omega) dX11_one_18
set_option maxHeartbeats 4000000 in
set_option maxRecDepth 100000 in
theorem x_11_line (l : Launch) (D : va_G) (ct : Nat → ClassId) (tN : Nat) (ad : Nat → Nat) (iv : Nat → Int32) (ia : Nat → Nat → Int32) (la : Nat → Nat → Int64) (pt : Nat → Option Nat) (ra : Nat → Nat → Option Nat) (R : va_W) (p0 : Int32) (h3 : (iv 3).toInt = 0) : MI l D (TY ct) tN yX11_line cX11_line 5 (some .int) ({ frames := 1, cells := 0, slots := 0, locals := 20 } : Room) [.ref (ad 0), .int p0] (XW ct ad iv ia la pt ra R) (fun (v : Int32) (u : va_W) => v.toInt = -1) (fun u => u) 0 0 := by
  intro sz
  refine Met.ofE (Qc := fun A => va_Qi (fun (v : Int32) (u : va_W) => v.toInt = -1) (BW D A (fun u => u)) A) (by decide) (Nat.le_of_ble_eq_true rfl) ?_
  intro p e s m args below meth c A ls hsz E hr hlk hnm B hl
  have hl : lv_has ls 5 [(0, .ref (ad 0)), (1, .int p0)] := hl
  refine lv_iconst (v := 0) E.1.1 E.1.2.1 dX11_line_0 (by decide) ?_
  refine lv_istore_n (lv' := [(2, .int (0 : Int32)), (0, .ref (ad 0)), (1, .int p0)]) E.1.1 E.1.2.1 dX11_line_1 rfl hl (by decide) rfl (fun ls hl => ?_)
  refine lv_iconst (v := 0) E.1.1 E.1.2.1 dX11_line_2 (by decide) ?_
  refine lv_istore_n (lv' := [(3, .int (0 : Int32)), (2, .int (0 : Int32)), (0, .ref (ad 0)), (1, .int p0)]) E.1.1 E.1.2.1 dX11_line_3 rfl hl (by decide) rfl (fun ls hl => ?_)
  refine lv_iload_n E.1.1 E.1.2.1 dX11_line_4 rfl (lv_at hl 0 rfl) ?_
  refine lv_aload_n E.1.1 E.1.2.1 dX11_line_5 rfl (lv_at hl 2 rfl) ?_
  refine at_pc (n := 6) rfl ?_
  refine row_get (v := .ref (ad 6)) E B iX11 rfl 3 (by decide) mw_388 0 rfl rfl dX11_line_6 ?_
  refine call_VI (kn := 0) E B (x_9_size l D ct tN ad iv ia la pt ra R   h3) (good_V mw_1297 mw_1150 mw_1151 mw_3 mw_1152) 6 rfl rfl ⟨rfl, by decide +kernel⟩ rfl rfl rfl ⟨by decide, by decide⟩ rfl hl (Nat.le_of_ble_eq_true rfl) dX11_line_9 ⟨Nat.le_of_ble_eq_true rfl, Nat.le_of_ble_eq_true rfl⟩ (fun v_1 u_2 H locs w_3 B => ?_)
  have w_3 : v_1.toInt = 0 := w_3
  have B : Hp D A s.heap (XW ct ad iv ia la pt ra R) H locs := B
  refine at_n (n := 12) (k1 := 0) (k2 := 0) rfl rfl rfl ?_
  refine c_ge (tgt := 73) E tI_0 w_3 dX11_line_12 (by decide) (fun c_4 => ?_) (fun c_4 => ?_)
  · skip
    refine lv_iconst (v := -1) E.1.1 E.1.2.1 dX11_line_73 (by decide) ?_
    have r_5 : (-1 : Int32).toInt = -1 := tI_m1
    exact ret_I (u := _) E hr hlk rfl B (by omega) dX11_line_74
  · exfalso; omega
set_option maxHeartbeats 4000000 in
set_option maxRecDepth 100000 in
theorem x_11_reads (l : Launch) (D : va_G) (ct : Nat → ClassId) (tN : Nat) (ad : Nat → Nat) (iv : Nat → Int32) (ia : Nat → Nat → Int32) (la : Nat → Nat → Int64) (pt : Nat → Option Nat) (ra : Nat → Nat → Option Nat) (R : va_W) (p0 : Int32) (p1 : Int32) (p2 : Int32) (p3 : Int32) (h3 : (iv 3).toInt = 0) : MI l D (TY ct) tN yX11_reads cX11_reads 5 (some .boolean) ({ frames := 1, cells := 0, slots := 0, locals := 21 } : Room) [.ref (ad 0), .int p0, .int p1, .int p2, .int p3] (XW ct ad iv ia la pt ra R) (fun (v : Int32) (u : va_W) => v.toInt = 0) (fun u => u) 0 0 := by
  intro sz
  refine Met.ofE (Qc := fun A => va_Qi (fun (v : Int32) (u : va_W) => v.toInt = 0) (BW D A (fun u => u)) A) (by decide) (Nat.le_of_ble_eq_true rfl) ?_
  intro p e s m args below meth c A ls hsz E hr hlk hnm B hl
  have hl : lv_has ls 5 [(0, .ref (ad 0)), (1, .int p0), (2, .int p1), (3, .int p2), (4, .int p3)] := hl
  refine lv_iload_n E.1.1 E.1.2.1 dX11_reads_0 rfl (lv_at hl 1 rfl) ?_
  refine b_lt (tgt := 31) E rfl dX11_reads_1 (by decide) (fun c_1 => ?_) (fun c_1 => ?_)
  · skip
    refine lv_iconst (v := 0) E.1.1 E.1.2.1 dX11_reads_31 (by decide) ?_
    have r_2 : (0 : Int32).toInt = 0 := tI_0
    exact ret_I (u := _) E hr hlk (narrow_z (by omega)) B (by omega) dX11_reads_32
  · skip
    refine lv_iload_n E.1.1 E.1.2.1 dX11_reads_4 rfl (lv_at hl 1 rfl) ?_
    refine lv_bipush (v := 9) E.1.1 E.1.2.1 dX11_reads_5 (by decide) ?_
    refine c_gt (tgt := 31) E rfl tI_9 dX11_reads_7 (by decide) (fun c_3 => ?_) (fun c_3 => ?_)
    · skip
      refine lv_iconst (v := 0) E.1.1 E.1.2.1 dX11_reads_31 (by decide) ?_
      have r_4 : (0 : Int32).toInt = 0 := tI_0
      exact ret_I (u := _) E hr hlk (narrow_z (by omega)) B (by omega) dX11_reads_32
    · skip
      refine lv_aload_n E.1.1 E.1.2.1 dX11_reads_10 rfl (lv_at hl 0 rfl) ?_
      refine row_get (v := .ref (ad 6)) E B iX11 rfl 3 (by decide) mw_388 0 rfl rfl dX11_reads_11 ?_
      refine lv_iload_n E.1.1 E.1.2.1 dX11_reads_14 rfl (lv_at hl 2 rfl) ?_
      refine call_VI (kn := 1) E B (x_9_has l D ct tN ad iv ia la pt ra R  p1 h3) (good_V mw_455 mw_456 mw_457 mw_3 mw_458) 6 rfl rfl ⟨rfl, by decide +kernel⟩ rfl rfl rfl ⟨by decide, by decide⟩ rfl hl (Nat.le_of_ble_eq_true rfl) dX11_reads_15 ⟨Nat.le_of_ble_eq_true rfl, Nat.le_of_ble_eq_true rfl⟩ (fun v_5 u_6 H locs w_7 B => ?_)
      have w_7 : v_5.toInt = 0 := w_7
      have B : Hp D A s.heap (XW ct ad iv ia la pt ra R) H locs := B
      refine at_n (n := 18) (k1 := 0) (k2 := 0) rfl rfl rfl ?_
      refine b_eq (tgt := 31) E w_7 dX11_reads_18 (by decide) (fun c_8 => ?_) (fun c_8 => ?_)
      · skip
        refine lv_iconst (v := 0) E.1.1 E.1.2.1 dX11_reads_31 (by decide) ?_
        have r_9 : (0 : Int32).toInt = 0 := tI_0
        exact ret_I (u := _) E hr hlk (narrow_z (by omega)) B (by omega) dX11_reads_32
      · exfalso; omega
set_option maxHeartbeats 4000000 in
set_option maxRecDepth 100000 in
theorem x_11_missed (l : Launch) (D : va_G) (ct : Nat → ClassId) (tN : Nat) (ad : Nat → Nat) (iv : Nat → Int32) (ia : Nat → Nat → Int32) (la : Nat → Nat → Int64) (pt : Nat → Option Nat) (ra : Nat → Nat → Option Nat) (R : va_W) (p0 : Int32) (h3 : (iv 3).toInt = 0) : MI l D (TY ct) tN yX11_missed cX11_missed 2 (some .int) ({ frames := 1, cells := 0, slots := 0, locals := 21 } : Room) [.ref (ad 0), .int p0] (XW ct ad iv ia la pt ra R) (fun (v : Int32) (u : va_W) => v.toInt = -1) (fun u => u) 0 0 := by
  intro sz
  refine Met.ofE (Qc := fun A => va_Qi (fun (v : Int32) (u : va_W) => v.toInt = -1) (BW D A (fun u => u)) A) (by decide) (Nat.le_of_ble_eq_true rfl) ?_
  intro p e s m args below meth c A ls hsz E hr hlk hnm B hl
  have hl : lv_has ls 2 [(0, .ref (ad 0)), (1, .int p0)] := hl
  refine lv_aload_n E.1.1 E.1.2.1 dX11_missed_0 rfl (lv_at hl 0 rfl) ?_
  refine row_get (v := .ref (ad 6)) E B iX11 rfl 3 (by decide) mw_388 0 rfl rfl dX11_missed_1 ?_
  refine lv_iload_n E.1.1 E.1.2.1 dX11_missed_4 rfl (lv_at hl 1 rfl) ?_
  refine call_VI (kn := 1) E B (x_9_has l D ct tN ad iv ia la pt ra R  p0 h3) (good_V mw_455 mw_456 mw_457 mw_3 mw_458) 6 rfl rfl ⟨rfl, by decide +kernel⟩ rfl rfl rfl ⟨by decide, by decide⟩ rfl hl (Nat.le_of_ble_eq_true rfl) dX11_missed_5 ⟨Nat.le_of_ble_eq_true rfl, Nat.le_of_ble_eq_true rfl⟩ (fun v_1 u_2 H locs w_3 B => ?_)
  have w_3 : v_1.toInt = 0 := w_3
  have B : Hp D A s.heap (XW ct ad iv ia la pt ra R) H locs := B
  refine at_n (n := 8) (k1 := 0) (k2 := 0) rfl rfl rfl ?_
  refine b_eq (tgt := 22) E w_3 dX11_missed_8 (by decide) (fun c_4 => ?_) (fun c_4 => ?_)
  · skip
    refine lv_iconst (v := -1) E.1.1 E.1.2.1 dX11_missed_22 (by decide) ?_
    have r_5 : (-1 : Int32).toInt = -1 := tI_m1
    exact ret_I (u := _) E hr hlk rfl B (by omega) dX11_missed_23
  · exfalso; omega
set_option maxHeartbeats 4000000 in
set_option maxRecDepth 100000 in
theorem x_11_changes (l : Launch) (D : va_G) (ct : Nat → ClassId) (tN : Nat) (ad : Nat → Nat) (iv : Nat → Int32) (ia : Nat → Nat → Int32) (la : Nat → Nat → Int64) (pt : Nat → Option Nat) (ra : Nat → Nat → Option Nat) (R : va_W) (p0 : Int32) (p1 : Int32) (p2 : Int32) (h3 : (iv 3).toInt = 0) : MI l D (TY ct) tN yX11_changes cX11_changes 4 (some .int) ({ frames := 1, cells := 0, slots := 0, locals := 21 } : Room) [.ref (ad 0), .int p0, .int p1, .int p2] (XW ct ad iv ia la pt ra R) (fun (v : Int32) (u : va_W) => v.toInt = -1) (fun u => u) 0 0 := by
  intro sz
  refine Met.ofE (Qc := fun A => va_Qi (fun (v : Int32) (u : va_W) => v.toInt = -1) (BW D A (fun u => u)) A) (by decide) (Nat.le_of_ble_eq_true rfl) ?_
  intro p e s m args below meth c A ls hsz E hr hlk hnm B hl
  have hl : lv_has ls 4 [(0, .ref (ad 0)), (1, .int p0), (2, .int p1), (3, .int p2)] := hl
  refine lv_aload_n E.1.1 E.1.2.1 dX11_changes_0 rfl (lv_at hl 0 rfl) ?_
  refine row_get (v := .ref (ad 6)) E B iX11 rfl 3 (by decide) mw_388 0 rfl rfl dX11_changes_1 ?_
  refine lv_iload_n E.1.1 E.1.2.1 dX11_changes_4 rfl (lv_at hl 1 rfl) ?_
  refine call_VI (kn := 1) E B (x_9_has l D ct tN ad iv ia la pt ra R  p0 h3) (good_V mw_455 mw_456 mw_457 mw_3 mw_458) 6 rfl rfl ⟨rfl, by decide +kernel⟩ rfl rfl rfl ⟨by decide, by decide⟩ rfl hl (Nat.le_of_ble_eq_true rfl) dX11_changes_5 ⟨Nat.le_of_ble_eq_true rfl, Nat.le_of_ble_eq_true rfl⟩ (fun v_1 u_2 H locs w_3 B => ?_)
  have w_3 : v_1.toInt = 0 := w_3
  have B : Hp D A s.heap (XW ct ad iv ia la pt ra R) H locs := B
  refine at_n (n := 8) (k1 := 0) (k2 := 0) rfl rfl rfl ?_
  refine b_eq (tgt := 27) E w_3 dX11_changes_8 (by decide) (fun c_4 => ?_) (fun c_4 => ?_)
  · skip
    refine lv_iconst (v := -1) E.1.1 E.1.2.1 dX11_changes_27 (by decide) ?_
    have r_5 : (-1 : Int32).toInt = -1 := tI_m1
    exact ret_I (u := _) E hr hlk rfl B (by omega) dX11_changes_28
  · exfalso; omega
set_option maxHeartbeats 4000000 in
set_option maxRecDepth 100000 in
theorem x_11_printed (l : Launch) (D : va_G) (ct : Nat → ClassId) (tN : Nat) (ad : Nat → Nat) (iv : Nat → Int32) (ia : Nat → Nat → Int32) (la : Nat → Nat → Int64) (pt : Nat → Option Nat) (ra : Nat → Nat → Option Nat) (R : va_W) (p0 : Int32) (p1 : Int32) (p2 : Int32) (h10 : (iv 10).toInt = 0) (g29 : ∀ j, (ia 29 j).toInt = -1) : MI l D (TY ct) tN yX11_printed cX11_printed 9 (some .int) ({ frames := 2, cells := 0, slots := 0, locals := 42 } : Room) [.ref (ad 0), .int p0, .int p1, .int p2] (XW ct ad iv ia la pt ra R) (fun (v : Int32) (u : va_W) => v.toInt = -1) (fun u => u) 0 0 := by
  intro sz
  refine Met.ofE (Qc := fun A => va_Qi (fun (v : Int32) (u : va_W) => v.toInt = -1) (BW D A (fun u => u)) A) (by decide) (Nat.le_of_ble_eq_true rfl) ?_
  intro p e s m args below meth c A ls hsz E hr hlk hnm B hl
  have hl : lv_has ls 9 [(0, .ref (ad 0)), (1, .int p0), (2, .int p1), (3, .int p2)] := hl
  refine lv_aload_n E.1.1 E.1.2.1 dX11_printed_0 rfl (lv_at hl 0 rfl) ?_
  refine row_get (v := .ref (ad 27)) E B iX11 rfl 6 (by decide) mw_391 0 rfl rfl dX11_printed_1 ?_
  refine lv_iload_n E.1.1 E.1.2.1 dX11_printed_4 rfl (lv_at hl 2 rfl) ?_
  refine call_VQ (kn := 1) E B (x_8_fixedAt l D ct tN ad iv ia la pt ra R  p1 h10 g29) (good_V mw_1298 mw_989 mw_990 mw_6 mw_991) 27 rfl rfl ⟨rfl, by decide +kernel⟩ rfl rfl rfl ⟨by decide, by decide⟩ rfl hl (Nat.le_of_ble_eq_true rfl) dX11_printed_5 ⟨Nat.le_of_ble_eq_true rfl, Nat.le_of_ble_eq_true rfl⟩ (fun v_1 u_2 H locs w_3 B => ?_)
  have w_3 : v_1 = none := w_3
  subst w_3
  have B : Hp D A s.heap (XW ct ad iv ia la pt ra R) H locs := B
  refine at_n (n := 8) (k1 := 0) (k2 := 0) rfl rfl rfl ?_
  refine lv_astoreN (lv' := [(4, .null), (0, .ref (ad 0)), (1, .int p0), (2, .int p1), (3, .int p2)]) E.1.1 E.1.2.1 dX11_printed_8 hl (by decide) rfl (fun ls hl => ?_)
  refine lv_aloadN E.1.1 E.1.2.1 dX11_printed_10 (lv_at hl 0 rfl) ?_
  refine lv_ifnullN (tgt := 26) E.1.1 E.1.2.1 dX11_printed_12 (by decide) ?_
  refine lv_iconst (v := -1) E.1.1 E.1.2.1 dX11_printed_26 (by decide) ?_
  have r_4 : (-1 : Int32).toInt = -1 := tI_m1
  exact ret_I (u := _) E hr hlk rfl B (by omega) dX11_printed_27
set_option maxHeartbeats 4000000 in
set_option maxRecDepth 100000 in
theorem x_11_plan (l : Launch) (D : va_G) (ct : Nat → ClassId) (tN : Nat) (ad : Nat → Nat) (iv : Nat → Int32) (ia : Nat → Nat → Int32) (la : Nat → Nat → Int64) (pt : Nat → Option Nat) (ra : Nat → Nat → Option Nat) (R : va_W) (p0 : Int32) (h3 : (iv 3).toInt = 0) (g51 : ∀ j, (ia 51 j).toInt = 0) : MI l D (TY ct) tN yX11_plan cX11_plan 2 (some .int) ({ frames := 3, cells := 0, slots := 0, locals := 64 } : Room) [.ref (ad 0), .int p0] (XW ct ad iv ia la pt ra R) (fun (v : Int32) (u : va_W) => (p0.toInt = -1 ∧ v.toInt = 0) ∨ (¬ p0.toInt = -1 ∧ v.toInt = -1)) (fun u => u) 0 0 := by
  intro sz
  refine Met.ofE (Qc := fun A => va_Qi (fun (v : Int32) (u : va_W) => (p0.toInt = -1 ∧ v.toInt = 0) ∨ (¬ p0.toInt = -1 ∧ v.toInt = -1)) (BW D A (fun u => u)) A) (by decide) (Nat.le_of_ble_eq_true rfl) ?_
  intro p e s m args below meth c A ls hsz E hr hlk hnm B hl
  have hl : lv_has ls 2 [(0, .ref (ad 0)), (1, .int p0)] := hl
  refine lv_aload_n E.1.1 E.1.2.1 dX11_plan_0 rfl (lv_at hl 0 rfl) ?_
  refine row_get (v := .ref (ad 50)) E B iX11 rfl 11 (by decide) mw_396 0 rfl rfl dX11_plan_1 ?_
  refine lv_iload_n E.1.1 E.1.2.1 dX11_plan_4 rfl (lv_at hl 1 rfl) ?_
  refine call_VI (kn := 1) E B (x_5_answer l D ct tN ad iv ia la pt ra R  p0 h3 g51) (good_V mw_1362 mw_1363 mw_1364 mw_11 mw_1365) 50 rfl rfl ⟨rfl, by decide +kernel⟩ rfl rfl rfl ⟨by decide, by decide⟩ rfl hl (Nat.le_of_ble_eq_true rfl) dX11_plan_5 ⟨Nat.le_of_ble_eq_true rfl, Nat.le_of_ble_eq_true rfl⟩ (fun v_1 u_2 H locs w_3 B => ?_)
  have w_3 : (p0.toInt = -1 ∧ v_1.toInt = 0) ∨ (¬ p0.toInt = -1 ∧ v_1.toInt = -1) := w_3
  have B : Hp D A s.heap (_) H locs := B
  refine at_n (n := 8) (k1 := 0) (k2 := 0) rfl rfl rfl ?_
  have r_4 : v_1.toInt = v_1.toInt := rfl
  exact ret_I (u := _) E hr hlk rfl B (by omega) dX11_plan_8
set_option maxHeartbeats 4000000 in
set_option maxRecDepth 100000 in
theorem x_11_judge (l : Launch) (D : va_G) (ct : Nat → ClassId) (tN : Nat) (ad : Nat → Nat) (iv : Nat → Int32) (ia : Nat → Nat → Int32) (la : Nat → Nat → Int64) (pt : Nat → Option Nat) (ra : Nat → Nat → Option Nat) (R : va_W) (p0 : Int32) (h3 : (iv 3).toInt = 0) (g51 : ∀ j, (ia 51 j).toInt = 0) : MI l D (TY ct) tN yX11_judge cX11_judge 2 (some .int) ({ frames := 3, cells := 0, slots := 0, locals := 67 } : Room) [.ref (ad 0), .int p0] (XW ct ad iv ia la pt ra R) (fun (v : Int32) (u : va_W) => (p0.toInt = 0 ∧ v.toInt = 0) ∨ (¬ p0.toInt = 0 ∧ v.toInt = -1)) (fun u => u) 0 0 := by
  intro sz
  refine Met.ofE (Qc := fun A => va_Qi (fun (v : Int32) (u : va_W) => (p0.toInt = 0 ∧ v.toInt = 0) ∨ (¬ p0.toInt = 0 ∧ v.toInt = -1)) (BW D A (fun u => u)) A) (by decide) (Nat.le_of_ble_eq_true rfl) ?_
  intro p e s m args below meth c A ls hsz E hr hlk hnm B hl
  have hl : lv_has ls 2 [(0, .ref (ad 0)), (1, .int p0)] := hl
  refine lv_aload_n E.1.1 E.1.2.1 dX11_judge_0 rfl (lv_at hl 0 rfl) ?_
  refine row_get (v := .ref (ad 50)) E B iX11 rfl 11 (by decide) mw_396 0 rfl rfl dX11_judge_1 ?_
  refine lv_iload_n E.1.1 E.1.2.1 dX11_judge_4 rfl (lv_at hl 1 rfl) ?_
  refine call_VI (kn := 1) E B (x_5_daysOf l D ct tN ad iv ia la pt ra R  p0 h3 g51) (good_V mw_1411 mw_1412 mw_1413 mw_11 mw_1414) 50 rfl rfl ⟨rfl, by decide +kernel⟩ rfl rfl rfl ⟨by decide, by decide⟩ rfl hl (Nat.le_of_ble_eq_true rfl) dX11_judge_5 ⟨Nat.le_of_ble_eq_true rfl, Nat.le_of_ble_eq_true rfl⟩ (fun v_1 u_2 H locs w_3 B => ?_)
  have w_3 : (p0.toInt = 0 ∧ v_1.toInt = 0) ∨ (¬ p0.toInt = 0 ∧ v_1.toInt = -1) := w_3
  have B : Hp D A s.heap (_) H locs := B
  refine at_n (n := 8) (k1 := 0) (k2 := 0) rfl rfl rfl ?_
  have r_4 : v_1.toInt = v_1.toInt := rfl
  exact ret_I (u := _) E hr hlk rfl B (by omega) dX11_judge_8
set_option maxHeartbeats 4000000 in
set_option maxRecDepth 100000 in
theorem x_11_firstWrongByte (l : Launch) (D : va_G) (ct : Nat → ClassId) (tN : Nat) (ad : Nat → Nat) (iv : Nat → Int32) (ia : Nat → Nat → Int32) (la : Nat → Nat → Int64) (pt : Nat → Option Nat) (ra : Nat → Nat → Option Nat) (R : va_W) (p0 : Int32) (h3 : (iv 3).toInt = 0) (q0 : p0.toInt = 0) : MI l D (TY ct) tN yX11_firstWrongByte cX11_firstWrongByte 5 (some .int) ({ frames := 1, cells := 0, slots := 0, locals := 20 } : Room) [.ref (ad 0), .int p0] (XW ct ad iv ia la pt ra R) (fun (v : Int32) (u : Unit) => v.toInt = -1) (fun _ => XW ct ad iv ia la pt ra R) 0 0 := by
  intro sz
  refine Met.ofE (Qc := fun A => va_Qi (fun (v : Int32) (u : Unit) => v.toInt = -1) (BW D A (fun _ => XW ct ad iv ia la pt ra R)) A) (by decide) (Nat.le_of_ble_eq_true rfl) ?_
  intro p e s m args below meth c A ls hsz E hr hlk hnm B hl
  have hl : lv_has ls 5 [(0, .ref (ad 0)), (1, .int p0)] := hl
  refine lv_iconst (v := 0) E.1.1 E.1.2.1 dX11_firstWrongByte_0 (by decide) ?_
  refine lv_istore_n (lv' := [(2, .int (0 : Int32)), (0, .ref (ad 0)), (1, .int p0)]) E.1.1 E.1.2.1 dX11_firstWrongByte_1 rfl hl (by decide) rfl (fun ls hl => ?_)
  refine lv_iconst (v := 0) E.1.1 E.1.2.1 dX11_firstWrongByte_2 (by decide) ?_
  refine lv_istore_n (lv' := [(3, .int (0 : Int32)), (2, .int (0 : Int32)), (0, .ref (ad 0)), (1, .int p0)]) E.1.1 E.1.2.1 dX11_firstWrongByte_3 rfl hl (by decide) rfl (fun ls hl => ?_)
  refine lv_iload_n E.1.1 E.1.2.1 dX11_firstWrongByte_4 rfl (lv_at hl 0 rfl) ?_
  refine lv_aload_n E.1.1 E.1.2.1 dX11_firstWrongByte_5 rfl (lv_at hl 2 rfl) ?_
  refine at_pc (n := 6) rfl ?_
  refine row_get (v := .ref (ad 6)) E B iX11 rfl 3 (by decide) mw_388 0 rfl rfl dX11_firstWrongByte_6 ?_
  refine call_VI (kn := 0) E B (x_9_size l D ct tN ad iv ia la pt ra R   h3) (good_V mw_1297 mw_1150 mw_1151 mw_3 mw_1152) 6 rfl rfl ⟨rfl, by decide +kernel⟩ rfl rfl rfl ⟨by decide, by decide⟩ rfl hl (Nat.le_of_ble_eq_true rfl) dX11_firstWrongByte_9 ⟨Nat.le_of_ble_eq_true rfl, Nat.le_of_ble_eq_true rfl⟩ (fun v_1 u_2 H locs w_3 B => ?_)
  have w_3 : v_1.toInt = 0 := w_3
  have B : Hp D A s.heap (XW ct ad iv ia la pt ra R) H locs := B
  refine at_n (n := 12) (k1 := 0) (k2 := 0) rfl rfl rfl ?_
  refine c_ge (tgt := 81) E tI_0 w_3 dX11_firstWrongByte_12 (by decide) (fun c_4 => ?_) (fun c_4 => ?_)
  · skip
    refine lv_iload_n E.1.1 E.1.2.1 dX11_firstWrongByte_81 rfl (lv_at hl 1 rfl) ?_
    refine lv_iload_n E.1.1 E.1.2.1 dX11_firstWrongByte_82 rfl (lv_at hl 3 rfl) ?_
    refine c_ge (tgt := 90) E tI_0 q0 dX11_firstWrongByte_83 (by decide) (fun c_5 => ?_) (fun c_5 => ?_)
    · skip
      refine lv_iconst (v := -1) E.1.1 E.1.2.1 dX11_firstWrongByte_90 (by decide) ?_
      have r_6 : (-1 : Int32).toInt = -1 := tI_m1
      exact ret_I (u := ()) E hr hlk rfl B (by omega) dX11_firstWrongByte_91
    · exfalso; omega
  · exfalso; omega
set_option maxHeartbeats 4000000 in
set_option maxRecDepth 100000 in
theorem x_11_check (l : Launch) (D : va_G) (ct : Nat → ClassId) (tN : Nat) (ad : Nat → Nat) (iv : Nat → Int32) (ia : Nat → Nat → Int32) (la : Nat → Nat → Int64) (pt : Nat → Option Nat) (ra : Nat → Nat → Option Nat) (R : va_W) (p0 : Int32) (h0 : (iv 0).toInt = 0) (h3 : (iv 3).toInt = 0) : MI l D (TY ct) tN yX11_check cX11_check 2 (some .int) ({ frames := 2, cells := 0, slots := 0, locals := 44 } : Room) [.ref (ad 0), .int p0] (XW ct ad iv ia la pt ra R) (fun (v : Int32) (u : va_W) => (p0.toInt = 0 ∧ v.toInt = -1) ∨ (¬ p0.toInt = 0 ∧ v.toInt = -2)) (fun u => u) 0 0 := by
  intro sz
  refine Met.ofE (Qc := fun A => va_Qi (fun (v : Int32) (u : va_W) => (p0.toInt = 0 ∧ v.toInt = -1) ∨ (¬ p0.toInt = 0 ∧ v.toInt = -2)) (BW D A (fun u => u)) A) (by decide) (Nat.le_of_ble_eq_true rfl) ?_
  intro p e s m args below meth c A ls hsz E hr hlk hnm B hl
  have hl : lv_has ls 2 [(0, .ref (ad 0)), (1, .int p0)] := hl
  refine lv_iload_n E.1.1 E.1.2.1 dX11_check_0 rfl (lv_at hl 1 rfl) ?_
  refine b_lt (tgt := 20) E rfl dX11_check_1 (by decide) (fun c_1 => ?_) (fun c_1 => ?_)
  · skip
    refine lv_bipush (v := -2) E.1.1 E.1.2.1 dX11_check_20 (by decide) ?_
    have r_2 : (-2 : Int32).toInt = -2 := tI_m2
    exact ret_I (u := _) E hr hlk rfl B (by omega) dX11_check_22
  · skip
    refine lv_iload_n E.1.1 E.1.2.1 dX11_check_4 rfl (lv_at hl 1 rfl) ?_
    refine lv_bipush (v := 60) E.1.1 E.1.2.1 dX11_check_5 (by decide) ?_
    refine c_gt (tgt := 20) E rfl tI_60 dX11_check_7 (by decide) (fun c_3 => ?_) (fun c_3 => ?_)
    · skip
      refine lv_bipush (v := -2) E.1.1 E.1.2.1 dX11_check_20 (by decide) ?_
      have r_4 : (-2 : Int32).toInt = -2 := tI_m2
      exact ret_I (u := _) E hr hlk rfl B (by omega) dX11_check_22
    · skip
      refine lv_iconst (v := 2) E.1.1 E.1.2.1 dX11_check_10 (by decide) ?_
      refine lv_iload_n E.1.1 E.1.2.1 dX11_check_11 rfl (lv_at hl 1 rfl) ?_
      refine i_mul (z0 := 2 * p0.toInt) E tI_2 rfl (by omega) (by omega) (by omega) dX11_check_12 (fun z_5 ez_5 => ?_)
      have ez_5 : z_5.toInt = 2 * p0.toInt := by omega
      refine lv_aload_n E.1.1 E.1.2.1 dX11_check_13 rfl (lv_at hl 0 rfl) ?_
      refine row_get (v := .int (iv 0)) E B iX11 rfl 12 (by decide) mw_397 0 rfl rfl dX11_check_14 ?_
      refine c_le (tgt := 23) E ez_5 h0 dX11_check_17 (by decide) (fun c_6 => ?_) (fun c_6 => ?_)
      · skip
        refine lv_aload_n E.1.1 E.1.2.1 dX11_check_23 rfl (lv_at hl 0 rfl) ?_
        refine lv_iconst (v := 0) E.1.1 E.1.2.1 dX11_check_24 (by decide) ?_
        refine row_put E B iX11 rfl tyX11 tyX11_ok nmX11 12 (by decide) mw_397 rfl 0 rfl rfl rfl (Nat.le_of_ble_eq_true rfl) dX11_check_25 (fun H locs B => ?_)
        have B := Hp.eq (sx_iv_0 ct ad iv ia la pt ra R ((0 : Int32))) B
        have h_8 : ((va_up iv 0 (0 : Int32)) 3).toInt = 0 := h3
        have h_9 : ((va_up iv 0 (0 : Int32)) 0).toInt = 0 := tI_0
        generalize va_up iv 0 (0 : Int32) = iv_7 at B h_8 h_9
        refine lv_aload_n E.1.1 E.1.2.1 dX11_check_28 rfl (lv_at hl 0 rfl) ?_
        refine lv_iconst (v := 2) E.1.1 E.1.2.1 dX11_check_29 (by decide) ?_
        refine lv_iload_n E.1.1 E.1.2.1 dX11_check_30 rfl (lv_at hl 1 rfl) ?_
        refine at_pc (n := 31) rfl ?_
        refine i_mul (z0 := 2 * p0.toInt) E tI_2 rfl (by omega) (by omega) (by omega) dX11_check_31 (fun z_10 ez_10 => ?_)
        have ez_10 : z_10.toInt = 2 * p0.toInt := by omega
        refine call_VI (kn := 1) E B (x_11_firstWrongByte l D ct tN ad iv_7 ia la pt ra R  z_10 h_8 (by have := ez_10; omega)) (good_V mw_1419 mw_1421 ms_71 mw_1 mw_1422) 0 rfl rfl ⟨rfl, by decide +kernel⟩ rfl rfl rfl ⟨by decide, by decide⟩ rfl hl (Nat.le_of_ble_eq_true rfl) dX11_check_32 ⟨Nat.le_of_ble_eq_true rfl, Nat.le_of_ble_eq_true rfl⟩ (fun v_11 u_12 H locs w_13 B => ?_)
        have w_13 : v_11.toInt = -1 := w_13
        have B : Hp D A s.heap (XW ct ad iv_7 ia la pt ra R) H locs := B
        refine at_n (n := 35) (k1 := 0) (k2 := 0) rfl rfl rfl ?_
        have r_14 : v_11.toInt = -1 := w_13
        exact ret_I (u := _) E hr hlk rfl B (by omega) dX11_check_35
      · skip
        refine lv_bipush (v := -2) E.1.1 E.1.2.1 dX11_check_20 (by decide) ?_
        have r_15 : (-2 : Int32).toInt = -2 := tI_m2
        exact ret_I (u := _) E hr hlk rfl B (by omega) dX11_check_22
set_option maxHeartbeats 4000000 in
set_option maxRecDepth 100000 in
theorem x_11_look (l : Launch) (D : va_G) (ct : Nat → ClassId) (tN : Nat) (ad : Nat → Nat) (iv : Nat → Int32) (ia : Nat → Nat → Int32) (la : Nat → Nat → Int64) (pt : Nat → Option Nat) (ra : Nat → Nat → Option Nat) (R : va_W) (p0 : Int32) (p1 : Int32) (h10 : (iv 10).toInt = 0) : MI l D (TY ct) tN yX11_look cX11_look 4 (some .int) ({ frames := 1, cells := 0, slots := 0, locals := 21 } : Room) [.ref (ad 0), .int p0, .int p1] (XW ct ad iv ia la pt ra R) (fun (v : Int32) (u : va_W) => v.toInt = -1) (fun u => u) 0 0 := by
  intro sz
  refine Met.ofE (Qc := fun A => va_Qi (fun (v : Int32) (u : va_W) => v.toInt = -1) (BW D A (fun u => u)) A) (by decide) (Nat.le_of_ble_eq_true rfl) ?_
  intro p e s m args below meth c A ls hsz E hr hlk hnm B hl
  have hl : lv_has ls 4 [(0, .ref (ad 0)), (1, .int p0), (2, .int p1)] := hl
  refine lv_aload_n E.1.1 E.1.2.1 dX11_look_0 rfl (lv_at hl 0 rfl) ?_
  refine row_get (v := .ref (ad 27)) E B iX11 rfl 6 (by decide) mw_391 0 rfl rfl dX11_look_1 ?_
  refine lv_iload_n E.1.1 E.1.2.1 dX11_look_4 rfl (lv_at hl 1 rfl) ?_
  refine call_VQ (kn := 1) E B (x_8_at l D ct tN ad iv ia la pt ra R  p0 h10) (good_V mw_936 mw_937 mw_938 mw_6 mw_939) 27 rfl rfl ⟨rfl, by decide +kernel⟩ rfl rfl rfl ⟨by decide, by decide⟩ rfl hl (Nat.le_of_ble_eq_true rfl) dX11_look_5 ⟨Nat.le_of_ble_eq_true rfl, Nat.le_of_ble_eq_true rfl⟩ (fun v_1 u_2 H locs w_3 B => ?_)
  have w_3 : v_1 = none := w_3
  subst w_3
  have B : Hp D A s.heap (XW ct ad iv ia la pt ra R) H locs := B
  refine at_n (n := 8) (k1 := 0) (k2 := 0) rfl rfl rfl ?_
  refine lv_astore_nN (lv' := [(3, .null), (0, .ref (ad 0)), (1, .int p0), (2, .int p1)]) E.1.1 E.1.2.1 dX11_look_8 rfl hl (by decide) rfl (fun ls hl => ?_)
  refine lv_aload_nN E.1.1 E.1.2.1 dX11_look_9 rfl (lv_at hl 0 rfl) ?_
  refine lv_ifnonnullN E.1.1 E.1.2.1 dX11_look_10 ?_
  refine lv_iconst (v := -1) E.1.1 E.1.2.1 dX11_look_13 (by decide) ?_
  refine lv_goto (tgt := 22) E.1.1 E.1.2.1 dX11_look_14 (by decide) ?_
  have r_4 : (-1 : Int32).toInt = -1 := tI_m1
  exact ret_I (u := _) E hr hlk rfl B (by omega) dX11_look_22
set_option maxHeartbeats 4000000 in
set_option maxRecDepth 100000 in
theorem x_11_count (l : Launch) (D : va_G) (ct : Nat → ClassId) (tN : Nat) (ad : Nat → Nat) (iv : Nat → Int32) (ia : Nat → Nat → Int32) (la : Nat → Nat → Int64) (pt : Nat → Option Nat) (ra : Nat → Nat → Option Nat) (R : va_W) (p0 : Int32) (h0 : (iv 0).toInt = 0) (h1 : (iv 1).toInt = 0) (h2 : (iv 2).toInt = 0) (h3 : (iv 3).toInt = 0) (h6 : (iv 6).toInt = 0) (h7 : (iv 7).toInt = 0) (h9 : (iv 9).toInt = 0) (h10 : (iv 10).toInt = 0) (h30 : (iv 30).toInt = 0) (g29 : ∀ j, (ia 29 j).toInt = -1) : MI l D (TY ct) tN yX11_count cX11_count 2 (some .int) ({ frames := 2, cells := 0, slots := 0, locals := 44 } : Room) [.ref (ad 0), .int p0] (XW ct ad iv ia la pt ra R) (fun (v : Int32) (u : va_W) => (((0 ≤ p0.toInt ∧ p0.toInt ≤ 10) ∨ (20 ≤ p0.toInt ∧ p0.toInt ≤ 24)) ∧ v.toInt = 0) ∨ (¬ ((0 ≤ p0.toInt ∧ p0.toInt ≤ 10) ∨ (20 ≤ p0.toInt ∧ p0.toInt ≤ 24)) ∧ v.toInt = -1)) (fun u => u) 0 0 := by
  intro sz
  refine Met.ofE (Qc := fun A => va_Qi (fun (v : Int32) (u : va_W) => (((0 ≤ p0.toInt ∧ p0.toInt ≤ 10) ∨ (20 ≤ p0.toInt ∧ p0.toInt ≤ 24)) ∧ v.toInt = 0) ∨ (¬ ((0 ≤ p0.toInt ∧ p0.toInt ≤ 10) ∨ (20 ≤ p0.toInt ∧ p0.toInt ≤ 24)) ∧ v.toInt = -1)) (BW D A (fun u => u)) A) (by decide) (Nat.le_of_ble_eq_true rfl) ?_
  intro p e s m args below meth c A ls hsz E hr hlk hnm B hl
  have hl : lv_has ls 2 [(0, .ref (ad 0)), (1, .int p0)] := hl
  refine lv_iload_n E.1.1 E.1.2.1 dX11_count_0 rfl (lv_at hl 1 rfl) ?_
  have xc_1 : p0.toInt = p0.toInt := rfl
  rcases (show (p0.toInt < 0 ∨ 10 < p0.toInt) ∨ (p0.toInt = 0 ∨ p0.toInt = 1 ∨ p0.toInt = 2 ∨ p0.toInt = 3 ∨ p0.toInt = 4 ∨ p0.toInt = 5 ∨ p0.toInt = 6 ∨ p0.toInt = 7 ∨ p0.toInt = 8 ∨ p0.toInt = 9 ∨ p0.toInt = 10) by omega) with c_1 | c_1 | c_1 | c_1 | c_1 | c_1 | c_1 | c_1 | c_1 | c_1 | c_1 | c_1
  · refine lv_tableOut (tgt := 155) E.1.1 E.1.2.1 dX11_count_1 (by omega) (by decide) ?_
    refine lv_iload_n E.1.1 E.1.2.1 dX11_count_155 rfl (lv_at hl 1 rfl) ?_
    refine lv_bipush (v := 20) E.1.1 E.1.2.1 dX11_count_156 (by decide) ?_
    refine c_lt (tgt := 181) E rfl tI_20 dX11_count_158 (by decide) (fun c_2 => ?_) (fun c_2 => ?_)
    · skip
      refine lv_iconst (v := -1) E.1.1 E.1.2.1 dX11_count_181 (by decide) ?_
      have r_3 : (-1 : Int32).toInt = -1 := tI_m1
      exact ret_I (u := _) E hr hlk rfl B (by omega) dX11_count_182
    · skip
      refine lv_iload_n E.1.1 E.1.2.1 dX11_count_161 rfl (lv_at hl 1 rfl) ?_
      refine lv_bipush (v := 24) E.1.1 E.1.2.1 dX11_count_162 (by decide) ?_
      refine c_gt (tgt := 181) E rfl tI_24 dX11_count_164 (by decide) (fun c_4 => ?_) (fun c_4 => ?_)
      · skip
        refine lv_iconst (v := -1) E.1.1 E.1.2.1 dX11_count_181 (by decide) ?_
        have r_5 : (-1 : Int32).toInt = -1 := tI_m1
        exact ret_I (u := _) E hr hlk rfl B (by omega) dX11_count_182
      · skip
        refine lv_aload_n E.1.1 E.1.2.1 dX11_count_167 rfl (lv_at hl 0 rfl) ?_
        refine row_get (v := .ref (ad 27)) E B iX11 rfl 6 (by decide) mw_391 0 rfl rfl dX11_count_168 ?_
        refine lv_iload_n E.1.1 E.1.2.1 dX11_count_171 rfl (lv_at hl 1 rfl) ?_
        refine lv_bipush (v := 20) E.1.1 E.1.2.1 dX11_count_172 (by decide) ?_
        refine i_sub E rfl tI_20 (by omega) (by omega) dX11_count_174 (fun z_6 ez_6 => ?_)
        have ez_6 : z_6.toInt = p0.toInt - 20 := by omega
        refine call_VI (kn := 1) E B (x_8_inState l D ct tN ad iv ia la pt ra R  z_6 h10) (good_V mw_1466 mw_1467 mw_1468 mw_6 mw_1469) 27 rfl rfl ⟨rfl, by decide +kernel⟩ rfl rfl rfl ⟨by decide, by decide⟩ rfl hl (Nat.le_of_ble_eq_true rfl) dX11_count_175 ⟨Nat.le_of_ble_eq_true rfl, Nat.le_of_ble_eq_true rfl⟩ (fun v_7 u_8 H locs w_9 B => ?_)
        have w_9 : v_7.toInt = 0 := w_9
        have B : Hp D A s.heap (XW ct ad iv ia la pt ra R) H locs := B
        refine at_n (n := 178) (k1 := 0) (k2 := 0) rfl rfl rfl ?_
        refine lv_goto (tgt := 182) E.1.1 E.1.2.1 dX11_count_178 (by decide) ?_
        have r_10 : v_7.toInt = 0 := w_9
        exact ret_I (u := _) E hr hlk rfl B (by omega) dX11_count_182
  · refine lv_tableIn (off := 59) (tgt := 60) E.1.1 E.1.2.1 dX11_count_1 (by omega) (by omega) (by rw [xc_1, c_1]; rfl) (by decide) ?_
    refine lv_aload_n E.1.1 E.1.2.1 dX11_count_60 rfl (lv_at hl 0 rfl) ?_
    refine row_get (v := .int (iv 1)) E B iX11 rfl 13 (by decide) mw_398 0 rfl rfl dX11_count_61 ?_
    have r_11 : (iv 1).toInt = 0 := h1
    exact ret_I (u := _) E hr hlk rfl B (by omega) dX11_count_64
  · refine lv_tableIn (off := 64) (tgt := 65) E.1.1 E.1.2.1 dX11_count_1 (by omega) (by omega) (by rw [xc_1, c_1]; rfl) (by decide) ?_
    refine lv_aload_n E.1.1 E.1.2.1 dX11_count_65 rfl (lv_at hl 0 rfl) ?_
    refine row_get (v := .ref (ad 6)) E B iX11 rfl 3 (by decide) mw_388 0 rfl rfl dX11_count_66 ?_
    refine call_VI (kn := 0) E B (x_9_size l D ct tN ad iv ia la pt ra R   h3) (good_V mw_1297 mw_1150 mw_1151 mw_3 mw_1152) 6 rfl rfl ⟨rfl, by decide +kernel⟩ rfl rfl rfl ⟨by decide, by decide⟩ rfl hl (Nat.le_of_ble_eq_true rfl) dX11_count_69 ⟨Nat.le_of_ble_eq_true rfl, Nat.le_of_ble_eq_true rfl⟩ (fun v_12 u_13 H locs w_14 B => ?_)
    have w_14 : v_12.toInt = 0 := w_14
    have B : Hp D A s.heap (XW ct ad iv ia la pt ra R) H locs := B
    refine at_n (n := 72) (k1 := 0) (k2 := 0) rfl rfl rfl ?_
    have r_15 : v_12.toInt = 0 := w_14
    exact ret_I (u := _) E hr hlk rfl B (by omega) dX11_count_72
  · refine lv_tableIn (off := 72) (tgt := 73) E.1.1 E.1.2.1 dX11_count_1 (by omega) (by omega) (by rw [xc_1, c_1]; rfl) (by decide) ?_
    refine lv_aload_n E.1.1 E.1.2.1 dX11_count_73 rfl (lv_at hl 0 rfl) ?_
    refine row_get (v := .ref (ad 3)) E B iX11 rfl 2 (by decide) mw_387 0 rfl rfl dX11_count_74 ?_
    refine call_VI (kn := 0) E B (x_10_size l D ct tN ad iv ia la pt ra R   h2) (good_V mw_1444 mw_1445 mw_1446 mw_2 mw_1447) 3 rfl rfl ⟨rfl, by decide +kernel⟩ rfl rfl rfl ⟨by decide, by decide⟩ rfl hl (Nat.le_of_ble_eq_true rfl) dX11_count_77 ⟨Nat.le_of_ble_eq_true rfl, Nat.le_of_ble_eq_true rfl⟩ (fun v_16 u_17 H locs w_18 B => ?_)
    have w_18 : v_16.toInt = 0 := w_18
    have B : Hp D A s.heap (XW ct ad iv ia la pt ra R) H locs := B
    refine at_n (n := 80) (k1 := 0) (k2 := 0) rfl rfl rfl ?_
    have r_19 : v_16.toInt = 0 := w_18
    exact ret_I (u := _) E hr hlk rfl B (by omega) dX11_count_80
  · refine lv_tableIn (off := 80) (tgt := 81) E.1.1 E.1.2.1 dX11_count_1 (by omega) (by omega) (by rw [xc_1, c_1]; rfl) (by decide) ?_
    refine lv_aload_n E.1.1 E.1.2.1 dX11_count_81 rfl (lv_at hl 0 rfl) ?_
    refine row_get (v := .ref (ad 12)) E B iX11 rfl 4 (by decide) mw_389 0 rfl rfl dX11_count_82 ?_
    refine call_VI (kn := 0) E B (x_4_companies l D ct tN ad iv ia la pt ra R   h6) (good_V mw_1448 mw_1390 mw_1391 mw_4 mw_1392) 12 rfl rfl ⟨rfl, by decide +kernel⟩ rfl rfl rfl ⟨by decide, by decide⟩ rfl hl (Nat.le_of_ble_eq_true rfl) dX11_count_85 ⟨Nat.le_of_ble_eq_true rfl, Nat.le_of_ble_eq_true rfl⟩ (fun v_20 u_21 H locs w_22 B => ?_)
    have w_22 : v_20.toInt = 0 := w_22
    have B : Hp D A s.heap (XW ct ad iv ia la pt ra R) H locs := B
    refine at_n (n := 88) (k1 := 0) (k2 := 0) rfl rfl rfl ?_
    have r_23 : v_20.toInt = 0 := w_22
    exact ret_I (u := _) E hr hlk rfl B (by omega) dX11_count_88
  · refine lv_tableIn (off := 88) (tgt := 89) E.1.1 E.1.2.1 dX11_count_1 (by omega) (by omega) (by rw [xc_1, c_1]; rfl) (by decide) ?_
    refine lv_aload_n E.1.1 E.1.2.1 dX11_count_89 rfl (lv_at hl 0 rfl) ?_
    refine row_get (v := .ref (ad 12)) E B iX11 rfl 4 (by decide) mw_389 0 rfl rfl dX11_count_90 ?_
    refine call_VI (kn := 0) E B (x_4_scholars l D ct tN ad iv ia la pt ra R   h7) (good_V mw_1449 mw_1450 mw_1451 mw_4 mw_1452) 12 rfl rfl ⟨rfl, by decide +kernel⟩ rfl rfl rfl ⟨by decide, by decide⟩ rfl hl (Nat.le_of_ble_eq_true rfl) dX11_count_93 ⟨Nat.le_of_ble_eq_true rfl, Nat.le_of_ble_eq_true rfl⟩ (fun v_24 u_25 H locs w_26 B => ?_)
    have w_26 : v_24.toInt = 0 := w_26
    have B : Hp D A s.heap (XW ct ad iv ia la pt ra R) H locs := B
    refine at_n (n := 96) (k1 := 0) (k2 := 0) rfl rfl rfl ?_
    have r_27 : v_24.toInt = 0 := w_26
    exact ret_I (u := _) E hr hlk rfl B (by omega) dX11_count_96
  · refine lv_tableIn (off := 96) (tgt := 97) E.1.1 E.1.2.1 dX11_count_1 (by omega) (by omega) (by rw [xc_1, c_1]; rfl) (by decide) ?_
    refine lv_aload_n E.1.1 E.1.2.1 dX11_count_97 rfl (lv_at hl 0 rfl) ?_
    refine row_get (v := .ref (ad 16)) E B iX11 rfl 5 (by decide) mw_390 0 rfl rfl dX11_count_98 ?_
    refine call_VI (kn := 0) E B (x_2_size l D ct tN ad iv ia la pt ra R   h9) (good_V mw_1453 mw_715 mw_716 mw_5 mw_717) 16 rfl rfl ⟨rfl, by decide +kernel⟩ rfl rfl rfl ⟨by decide, by decide⟩ rfl hl (Nat.le_of_ble_eq_true rfl) dX11_count_101 ⟨Nat.le_of_ble_eq_true rfl, Nat.le_of_ble_eq_true rfl⟩ (fun v_28 u_29 H locs w_30 B => ?_)
    have w_30 : v_28.toInt = 0 := w_30
    have B : Hp D A s.heap (XW ct ad iv ia la pt ra R) H locs := B
    refine at_n (n := 104) (k1 := 0) (k2 := 0) rfl rfl rfl ?_
    have r_31 : v_28.toInt = 0 := w_30
    exact ret_I (u := _) E hr hlk rfl B (by omega) dX11_count_104
  · refine lv_tableIn (off := 104) (tgt := 105) E.1.1 E.1.2.1 dX11_count_1 (by omega) (by omega) (by rw [xc_1, c_1]; rfl) (by decide) ?_
    refine lv_aload_n E.1.1 E.1.2.1 dX11_count_105 rfl (lv_at hl 0 rfl) ?_
    refine row_get (v := .ref (ad 27)) E B iX11 rfl 6 (by decide) mw_391 0 rfl rfl dX11_count_106 ?_
    refine call_VI (kn := 0) E B (x_8_size l D ct tN ad iv ia la pt ra R   h10) (good_V mw_1454 mw_1455 mw_1456 mw_6 mw_1457) 27 rfl rfl ⟨rfl, by decide +kernel⟩ rfl rfl rfl ⟨by decide, by decide⟩ rfl hl (Nat.le_of_ble_eq_true rfl) dX11_count_109 ⟨Nat.le_of_ble_eq_true rfl, Nat.le_of_ble_eq_true rfl⟩ (fun v_32 u_33 H locs w_34 B => ?_)
    have w_34 : v_32.toInt = 0 := w_34
    have B : Hp D A s.heap (XW ct ad iv ia la pt ra R) H locs := B
    refine at_n (n := 112) (k1 := 0) (k2 := 0) rfl rfl rfl ?_
    have r_35 : v_32.toInt = 0 := w_34
    exact ret_I (u := _) E hr hlk rfl B (by omega) dX11_count_112
  · refine lv_tableIn (off := 112) (tgt := 113) E.1.1 E.1.2.1 dX11_count_1 (by omega) (by omega) (by rw [xc_1, c_1]; rfl) (by decide) ?_
    refine lv_aload_n E.1.1 E.1.2.1 dX11_count_113 rfl (lv_at hl 0 rfl) ?_
    refine row_get (v := .int (iv 0)) E B iX11 rfl 12 (by decide) mw_397 0 rfl rfl dX11_count_114 ?_
    have r_36 : (iv 0).toInt = 0 := h0
    exact ret_I (u := _) E hr hlk rfl B (by omega) dX11_count_117
  · refine lv_tableIn (off := 117) (tgt := 118) E.1.1 E.1.2.1 dX11_count_1 (by omega) (by omega) (by rw [xc_1, c_1]; rfl) (by decide) ?_
    refine lv_aload_n E.1.1 E.1.2.1 dX11_count_118 rfl (lv_at hl 0 rfl) ?_
    refine row_get (v := .ref (ad 42)) E B iX11 rfl 10 (by decide) mw_395 0 rfl rfl dX11_count_119 ?_
    refine call_VI (kn := 0) E B (x_0_size l D ct tN ad iv ia la pt ra R   h30) (good_V mw_1458 mw_1459 mw_1460 mw_10 mw_1461) 42 rfl rfl ⟨rfl, by decide +kernel⟩ rfl rfl rfl ⟨by decide, by decide⟩ rfl hl (Nat.le_of_ble_eq_true rfl) dX11_count_122 ⟨Nat.le_of_ble_eq_true rfl, Nat.le_of_ble_eq_true rfl⟩ (fun v_37 u_38 H locs w_39 B => ?_)
    have w_39 : v_37.toInt = 0 := w_39
    have B : Hp D A s.heap (XW ct ad iv ia la pt ra R) H locs := B
    refine at_n (n := 125) (k1 := 0) (k2 := 0) rfl rfl rfl ?_
    have r_40 : v_37.toInt = 0 := w_39
    exact ret_I (u := _) E hr hlk rfl B (by omega) dX11_count_125
  · refine lv_tableIn (off := 125) (tgt := 126) E.1.1 E.1.2.1 dX11_count_1 (by omega) (by omega) (by rw [xc_1, c_1]; rfl) (by decide) ?_
    refine lv_aload_n E.1.1 E.1.2.1 dX11_count_126 rfl (lv_at hl 0 rfl) ?_
    refine row_get (v := .ref (ad 27)) E B iX11 rfl 6 (by decide) mw_391 0 rfl rfl dX11_count_127 ?_
    refine call_VI (kn := 0) E B (x_8_fixedVerses l D ct tN ad iv ia la pt ra R   g29) (good_V mw_1462 mw_1463 mw_1464 mw_6 mw_1465) 27 rfl rfl ⟨rfl, by decide +kernel⟩ rfl rfl rfl ⟨by decide, by decide⟩ rfl hl (Nat.le_of_ble_eq_true rfl) dX11_count_130 ⟨Nat.le_of_ble_eq_true rfl, Nat.le_of_ble_eq_true rfl⟩ (fun v_41 u_42 H locs w_43 B => ?_)
    have w_43 : v_41.toInt = 0 := w_43
    have B : Hp D A s.heap (XW ct ad iv ia la pt ra R) H locs := B
    refine at_n (n := 133) (k1 := 0) (k2 := 0) rfl rfl rfl ?_
    have r_44 : v_41.toInt = 0 := w_43
    exact ret_I (u := _) E hr hlk rfl B (by omega) dX11_count_133
  · refine lv_tableIn (off := 133) (tgt := 134) E.1.1 E.1.2.1 dX11_count_1 (by omega) (by omega) (by rw [xc_1, c_1]; rfl) (by decide) ?_
    refine lv_aload_n E.1.1 E.1.2.1 dX11_count_134 rfl (lv_at hl 0 rfl) ?_
    refine row_get (v := .ref (ad 35)) E B iX11 rfl 9 (by decide) mw_394 0 rfl rfl dX11_count_135 ?_
    refine lv_aload_n E.1.1 E.1.2.1 dX11_count_138 rfl (lv_at hl 0 rfl) ?_
    refine row_get (v := .int (iv 1)) E B iX11 rfl 13 (by decide) mw_398 0 rfl rfl dX11_count_139 ?_
    refine lv_iconst (v := -1) E.1.1 E.1.2.1 dX11_count_142 (by decide) ?_
    refine call_VI (kn := 2) E B (x_1_seekUnlike l D ct tN ad iv ia la pt ra R  ((iv 1)) ((-1 : Int32)) h3) (good_V mw_1145 mw_1146 mw_1147 mw_9 mw_1148) 35 rfl rfl ⟨rfl, by decide +kernel⟩ rfl rfl rfl ⟨by decide, by decide⟩ rfl hl (Nat.le_of_ble_eq_true rfl) dX11_count_143 ⟨Nat.le_of_ble_eq_true rfl, Nat.le_of_ble_eq_true rfl⟩ (fun v_45 u_46 H locs w_47 B => ?_)
    obtain ⟨w_47, h_48⟩ := w_47
    have h_48 : (u_46 29).toInt = 0 := h_48
    have w_47 : v_45.toInt = 0 := w_47
    have B : Hp D A s.heap (XW ct ad u_46 ia la pt ra R) H locs := B
    refine at_n (n := 146) (k1 := 0) (k2 := 0) rfl rfl rfl ?_
    refine lv_pop E.1.1 E.1.2.1 dX11_count_146 rfl ?_
    refine lv_aload_n E.1.1 E.1.2.1 dX11_count_147 rfl (lv_at hl 0 rfl) ?_
    refine row_get (v := .ref (ad 35)) E B iX11 rfl 9 (by decide) mw_394 0 rfl rfl dX11_count_148 ?_
    refine call_VI (kn := 0) E B (x_1_seen l D ct tN ad u_46 ia la pt ra R   h_48) (good_V mw_1115 mw_1116 mw_1117 mw_9 mw_1118) 35 rfl rfl ⟨rfl, by decide +kernel⟩ rfl rfl rfl ⟨by decide, by decide⟩ rfl hl (Nat.le_of_ble_eq_true rfl) dX11_count_151 ⟨Nat.le_of_ble_eq_true rfl, Nat.le_of_ble_eq_true rfl⟩ (fun v_49 u_50 H locs w_51 B => ?_)
    have w_51 : v_49.toInt = 0 := w_51
    have B : Hp D A s.heap (XW ct ad u_46 ia la pt ra R) H locs := B
    refine at_n (n := 154) (k1 := 0) (k2 := 0) rfl rfl rfl ?_
    have r_52 : v_49.toInt = 0 := w_51
    exact ret_I (u := _) E hr hlk rfl B (by omega) dX11_count_154
end
