/-! words of the tables by their places -/
theorem w_06899428 : (Jvm.Cond.selects "VerseCommittee" ({ cls := "VerseCommittee", name := "putFour", desc := "(I)V" } : Jvm.MethodName) ({ cls := "VerseCommittee", name := "putFour", desc := "(I)V" } : Jvm.MethodName)) ∈ BIG := big_mem 0 (by decide +kernel) rfl
theorem w_5d1ee182 : (Jvm.Cond.selects "VerseCommittee" ({ cls := "VerseCommittee", name := "tapeHas", desc := "(II)Z" } : Jvm.MethodName) ({ cls := "VerseCommittee", name := "tapeHas", desc := "(II)Z" } : Jvm.MethodName)) ∈ BIG := big_mem 1 (by decide +kernel) rfl
theorem w_7cd927c3 : (Jvm.Cond.selects "VerseCommittee" ({ cls := "VerseCommittee", name := "tapeHasTokens", desc := "(I)Z" } : Jvm.MethodName) ({ cls := "VerseCommittee", name := "tapeHasTokens", desc := "(I)Z" } : Jvm.MethodName)) ∈ BIG := big_mem 2 (by decide +kernel) rfl
theorem w_ebc5bfb8 : (Jvm.Cond.selects "VerseCommittee" ({ cls := "VerseCommittee", name := "tapeHasLetters", desc := "(I)Z" } : Jvm.MethodName) ({ cls := "VerseCommittee", name := "tapeHasLetters", desc := "(I)Z" } : Jvm.MethodName)) ∈ BIG := big_mem 3 (by decide +kernel) rfl
theorem w_b73689e8 : (Jvm.Cond.selects "VerseCommittee$Words" ({ cls := "VerseCommittee$Words", name := "isThere", desc := "([II)Z" } : Jvm.MethodName) ({ cls := "VerseCommittee$Words", name := "isThere", desc := "([II)Z" } : Jvm.MethodName)) ∈ BIG := big_mem 4 (by decide +kernel) rfl
theorem w_3c504341 : (Jvm.Cond.selects "VerseCommittee$Words" ({ cls := "VerseCommittee$Words", name := "isSpelledSo", desc := "(I[II)Z" } : Jvm.MethodName) ({ cls := "VerseCommittee$Words", name := "isSpelledSo", desc := "(I[II)Z" } : Jvm.MethodName)) ∈ BIG := big_mem 5 (by decide +kernel) rfl
theorem w_05cbd97e : (Jvm.Cond.selects "VerseCommittee$Words" ({ cls := "VerseCommittee$Words", name := "put", desc := "(I[II)V" } : Jvm.MethodName) ({ cls := "VerseCommittee$Words", name := "put", desc := "(I[II)V" } : Jvm.MethodName)) ∈ BIG := big_mem 6 (by decide +kernel) rfl
theorem w_503dfaaa : (Jvm.Cond.selects "VerseCommittee$Parser" ({ cls := "VerseCommittee$Parser", name := "readClause", desc := "(I)Z" } : Jvm.MethodName) ({ cls := "VerseCommittee$Parser", name := "readClause", desc := "(I)Z" } : Jvm.MethodName)) ∈ BIG := big_mem 7 (by decide +kernel) rfl
theorem w_6db83eae : (Jvm.Cond.selects "VerseCommittee$Parser" ({ cls := "VerseCommittee$Parser", name := "sign", desc := "()I" } : Jvm.MethodName) ({ cls := "VerseCommittee$Parser", name := "sign", desc := "()I" } : Jvm.MethodName)) ∈ BIG := big_mem 8 (by decide +kernel) rfl
theorem w_ec5eb6ed : (Jvm.Cond.selects "VerseCommittee$Parser" ({ cls := "VerseCommittee$Parser", name := "fail", desc := "(II)Z" } : Jvm.MethodName) ({ cls := "VerseCommittee$Parser", name := "fail", desc := "(II)Z" } : Jvm.MethodName)) ∈ BIG := big_mem 9 (by decide +kernel) rfl
theorem w_671c087e : (Jvm.Cond.selects "VerseCommittee$Parser" ({ cls := "VerseCommittee$Parser", name := "readTurning", desc := "(I)Z" } : Jvm.MethodName) ({ cls := "VerseCommittee$Parser", name := "readTurning", desc := "(I)Z" } : Jvm.MethodName)) ∈ BIG := big_mem 10 (by decide +kernel) rfl
theorem w_a5be57bc : (Jvm.Cond.selects "VerseCommittee$Parser" ({ cls := "VerseCommittee$Parser", name := "readNumber", desc := "(I)I" } : Jvm.MethodName) ({ cls := "VerseCommittee$Parser", name := "readNumber", desc := "(I)I" } : Jvm.MethodName)) ∈ BIG := big_mem 11 (by decide +kernel) rfl
theorem w_f7c0dd0d : (Jvm.Cond.selects "VerseCommittee$Parser" ({ cls := "VerseCommittee$Parser", name := "pass", desc := "(I)Z" } : Jvm.MethodName) ({ cls := "VerseCommittee$Parser", name := "pass", desc := "(I)Z" } : Jvm.MethodName)) ∈ BIG := big_mem 12 (by decide +kernel) rfl
theorem w_97fa04d4 : (Jvm.Cond.selects "VerseCommittee$Parser" ({ cls := "VerseCommittee$Parser", name := "readTail", desc := "(II)Z" } : Jvm.MethodName) ({ cls := "VerseCommittee$Parser", name := "readTail", desc := "(II)Z" } : Jvm.MethodName)) ∈ BIG := big_mem 13 (by decide +kernel) rfl
theorem w_d004c177 : (Jvm.Cond.selects "VerseCommittee$Parser" ({ cls := "VerseCommittee$Parser", name := "readCondition", desc := "(I)Z" } : Jvm.MethodName) ({ cls := "VerseCommittee$Parser", name := "readCondition", desc := "(I)Z" } : Jvm.MethodName)) ∈ BIG := big_mem 14 (by decide +kernel) rfl
theorem w_37ab315c : (Jvm.Cond.selects "VerseCommittee$Parser" ({ cls := "VerseCommittee$Parser", name := "readPart", desc := "(I)Z" } : Jvm.MethodName) ({ cls := "VerseCommittee$Parser", name := "readPart", desc := "(I)Z" } : Jvm.MethodName)) ∈ BIG := big_mem 15 (by decide +kernel) rfl
theorem w_fddcfcdc : (Jvm.Cond.selects "VerseCommittee$Parser" ({ cls := "VerseCommittee$Parser", name := "readPiece", desc := "(I)Z" } : Jvm.MethodName) ({ cls := "VerseCommittee$Parser", name := "readPiece", desc := "(I)Z" } : Jvm.MethodName)) ∈ BIG := big_mem 16 (by decide +kernel) rfl
theorem w_2794eb38 : (Jvm.Cond.selects "VerseCommittee$Parser" ({ cls := "VerseCommittee$Parser", name := "readOpening", desc := "(I)Z" } : Jvm.MethodName) ({ cls := "VerseCommittee$Parser", name := "readOpening", desc := "(I)Z" } : Jvm.MethodName)) ∈ BIG := big_mem 17 (by decide +kernel) rfl
theorem w_02cfd92e : (Jvm.Cond.selects "VerseCommittee$Parser" ({ cls := "VerseCommittee$Parser", name := "readSum", desc := "(I)Z" } : Jvm.MethodName) ({ cls := "VerseCommittee$Parser", name := "readSum", desc := "(I)Z" } : Jvm.MethodName)) ∈ BIG := big_mem 18 (by decide +kernel) rfl
theorem w_78d5b2b3 : (Jvm.Cond.selects "VerseCommittee$Parser" ({ cls := "VerseCommittee$Parser", name := "readTerm", desc := "(I)Z" } : Jvm.MethodName) ({ cls := "VerseCommittee$Parser", name := "readTerm", desc := "(I)Z" } : Jvm.MethodName)) ∈ BIG := big_mem 19 (by decide +kernel) rfl
theorem w_dfaf2236 : (Jvm.Cond.selects "VerseCommittee$Parser" ({ cls := "VerseCommittee$Parser", name := "readFactor", desc := "(I)Z" } : Jvm.MethodName) ({ cls := "VerseCommittee$Parser", name := "readFactor", desc := "(I)Z" } : Jvm.MethodName)) ∈ BIG := big_mem 20 (by decide +kernel) rfl
theorem w_de0d1907 : (Jvm.Cond.selects "VerseCommittee$Parser" ({ cls := "VerseCommittee$Parser", name := "isTermSign", desc := "()Z" } : Jvm.MethodName) ({ cls := "VerseCommittee$Parser", name := "isTermSign", desc := "()Z" } : Jvm.MethodName)) ∈ BIG := big_mem 21 (by decide +kernel) rfl
theorem w_88bd914c : (Jvm.Cond.selects "VerseCommittee$Parser" ({ cls := "VerseCommittee$Parser", name := "readComparison", desc := "()Z" } : Jvm.MethodName) ({ cls := "VerseCommittee$Parser", name := "readComparison", desc := "()Z" } : Jvm.MethodName)) ∈ BIG := big_mem 22 (by decide +kernel) rfl
theorem w_04f01247 : (Jvm.Cond.selects "VerseCommittee$Parser" ({ cls := "VerseCommittee$Parser", name := "readRanks", desc := "(I)Z" } : Jvm.MethodName) ({ cls := "VerseCommittee$Parser", name := "readRanks", desc := "(I)Z" } : Jvm.MethodName)) ∈ BIG := big_mem 23 (by decide +kernel) rfl
theorem w_84dda62c : (Jvm.Cond.selects "VerseCommittee$Parser" ({ cls := "VerseCommittee$Parser", name := "readHundredths", desc := "(I)Z" } : Jvm.MethodName) ({ cls := "VerseCommittee$Parser", name := "readHundredths", desc := "(I)Z" } : Jvm.MethodName)) ∈ BIG := big_mem 24 (by decide +kernel) rfl
theorem w_c9d7f19e : (Jvm.Cond.selects "VerseCommittee$Parser" ({ cls := "VerseCommittee$Parser", name := "readRest", desc := "(I)Z" } : Jvm.MethodName) ({ cls := "VerseCommittee$Parser", name := "readRest", desc := "(I)Z" } : Jvm.MethodName)) ∈ BIG := big_mem 25 (by decide +kernel) rfl
theorem w_4a993258 : (Jvm.Cond.selects "VerseCommittee$Reckoner" ({ cls := "VerseCommittee$Reckoner", name := "findCopy", desc := "()V" } : Jvm.MethodName) ({ cls := "VerseCommittee$Reckoner", name := "findCopy", desc := "()V" } : Jvm.MethodName)) ∈ BIG := big_mem 26 (by decide +kernel) rfl
theorem w_6c3ff485 : (Jvm.Cond.selects "VerseCommittee$Reckoner" ({ cls := "VerseCommittee$Reckoner", name := "lastInForce", desc := "(II)I" } : Jvm.MethodName) ({ cls := "VerseCommittee$Reckoner", name := "lastInForce", desc := "(II)I" } : Jvm.MethodName)) ∈ BIG := big_mem 27 (by decide +kernel) rfl
theorem w_4a7f4070 : (Jvm.Cond.selects "VerseCommittee$Reckoner" ({ cls := "VerseCommittee$Reckoner", name := "reckonCondition", desc := "(ZI)Z" } : Jvm.MethodName) ({ cls := "VerseCommittee$Reckoner", name := "reckonCondition", desc := "(ZI)Z" } : Jvm.MethodName)) ∈ BIG := big_mem 28 (by decide +kernel) rfl
theorem w_d3e0f33b : (Jvm.Cond.selects "VerseCommittee$Reckoner" ({ cls := "VerseCommittee$Reckoner", name := "reckonPart", desc := "(ZI)Z" } : Jvm.MethodName) ({ cls := "VerseCommittee$Reckoner", name := "reckonPart", desc := "(ZI)Z" } : Jvm.MethodName)) ∈ BIG := big_mem 29 (by decide +kernel) rfl
theorem w_fcd592c1 : (Jvm.Cond.selects "VerseCommittee$Reckoner" ({ cls := "VerseCommittee$Reckoner", name := "reckonPiece", desc := "(ZI)Z" } : Jvm.MethodName) ({ cls := "VerseCommittee$Reckoner", name := "reckonPiece", desc := "(ZI)Z" } : Jvm.MethodName)) ∈ BIG := big_mem 30 (by decide +kernel) rfl
theorem w_3c15903a : (Jvm.Cond.selects "VerseCommittee$Reckoner" ({ cls := "VerseCommittee$Reckoner", name := "sign", desc := "()I" } : Jvm.MethodName) ({ cls := "VerseCommittee$Reckoner", name := "sign", desc := "()I" } : Jvm.MethodName)) ∈ BIG := big_mem 31 (by decide +kernel) rfl
theorem w_148886bb : (Jvm.Cond.selects "VerseCommittee$Reckoner" ({ cls := "VerseCommittee$Reckoner", name := "reckonSum", desc := "(ZI)I" } : Jvm.MethodName) ({ cls := "VerseCommittee$Reckoner", name := "reckonSum", desc := "(ZI)I" } : Jvm.MethodName)) ∈ BIG := big_mem 32 (by decide +kernel) rfl
theorem w_476bcdd6 : (Jvm.Cond.selects "VerseCommittee$Reckoner" ({ cls := "VerseCommittee$Reckoner", name := "reckonTerm", desc := "(ZI)I" } : Jvm.MethodName) ({ cls := "VerseCommittee$Reckoner", name := "reckonTerm", desc := "(ZI)I" } : Jvm.MethodName)) ∈ BIG := big_mem 33 (by decide +kernel) rfl
theorem w_36312c84 : (Jvm.Cond.selects "VerseCommittee$Reckoner" ({ cls := "VerseCommittee$Reckoner", name := "reckonFactor", desc := "(ZI)I" } : Jvm.MethodName) ({ cls := "VerseCommittee$Reckoner", name := "reckonFactor", desc := "(ZI)I" } : Jvm.MethodName)) ∈ BIG := big_mem 34 (by decide +kernel) rfl
theorem w_d05c172d : (Jvm.Cond.selects "VerseCommittee$Reckoner" ({ cls := "VerseCommittee$Reckoner", name := "numberThere", desc := "()I" } : Jvm.MethodName) ({ cls := "VerseCommittee$Reckoner", name := "numberThere", desc := "()I" } : Jvm.MethodName)) ∈ BIG := big_mem 35 (by decide +kernel) rfl
theorem w_09334d0d : (Jvm.Cond.selects "VerseCommittee$Reckoner" ({ cls := "VerseCommittee$Reckoner", name := "letterValue", desc := "(I)I" } : Jvm.MethodName) ({ cls := "VerseCommittee$Reckoner", name := "letterValue", desc := "(I)I" } : Jvm.MethodName)) ∈ BIG := big_mem 36 (by decide +kernel) rfl
theorem w_d4829efe : (Jvm.Cond.selects "VerseCommittee" ({ cls := "VerseCommittee", name := "distance", desc := "([I[I)I" } : Jvm.MethodName) ({ cls := "VerseCommittee", name := "distance", desc := "([I[I)I" } : Jvm.MethodName)) ∈ BIG := big_mem 37 (by decide +kernel) rfl
theorem w_cf464490 : (Jvm.Cond.selects "VerseCommittee" ({ cls := "VerseCommittee", name := "tapeHasSlots", desc := "(II)Z" } : Jvm.MethodName) ({ cls := "VerseCommittee", name := "tapeHasSlots", desc := "(II)Z" } : Jvm.MethodName)) ∈ BIG := big_mem 38 (by decide +kernel) rfl
theorem w_86008f91 : (Jvm.Cond.selects "VerseCommittee" ({ cls := "VerseCommittee", name := "votersOf", desc := "(LVerseCommittee$Rendering;)I" } : Jvm.MethodName) ({ cls := "VerseCommittee", name := "votersOf", desc := "(LVerseCommittee$Rendering;)I" } : Jvm.MethodName)) ∈ BIG := big_mem 39 (by decide +kernel) rfl
theorem w_03af7a9e : (Jvm.Cond.selects "VerseCommittee$Shelf" ({ cls := "VerseCommittee$Shelf", name := "setFixed", desc := "(III)V" } : Jvm.MethodName) ({ cls := "VerseCommittee$Shelf", name := "setFixed", desc := "(III)V" } : Jvm.MethodName)) ∈ BIG := big_mem 40 (by decide +kernel) rfl
theorem w_2408f508 : (Jvm.Cond.selects "VerseCommittee$Rendering" ({ cls := "VerseCommittee$Rendering", name := "standsWithout", desc := "(II)Z" } : Jvm.MethodName) ({ cls := "VerseCommittee$Rendering", name := "standsWithout", desc := "(II)Z" } : Jvm.MethodName)) ∈ BIG := big_mem 41 (by decide +kernel) rfl
theorem w_2987c117 : (Jvm.Cond.selects "VerseCommittee" ({ cls := "VerseCommittee", name := "isPastDay", desc := "(I)Z" } : Jvm.MethodName) ({ cls := "VerseCommittee", name := "isPastDay", desc := "(I)Z" } : Jvm.MethodName)) ∈ BIG := big_mem 42 (by decide +kernel) rfl
theorem w_e3b1c5ae : (Jvm.Cond.selects "VerseCommittee$Findings" ({ cls := "VerseCommittee$Findings", name := "gatherHeld", desc := "(II[I)V" } : Jvm.MethodName) ({ cls := "VerseCommittee$Findings", name := "gatherHeld", desc := "(II[I)V" } : Jvm.MethodName)) ∈ BIG := big_mem 43 (by decide +kernel) rfl
theorem w_09ffa3ab : (Jvm.Cond.selects "VerseCommittee$Findings" ({ cls := "VerseCommittee$Findings", name := "tellClause", desc := "(II)V" } : Jvm.MethodName) ({ cls := "VerseCommittee$Findings", name := "tellClause", desc := "(II)V" } : Jvm.MethodName)) ∈ BIG := big_mem 44 (by decide +kernel) rfl
theorem w_19b6644a : (Jvm.Cond.selects "VerseCommittee$Findings" ({ cls := "VerseCommittee$Findings", name := "seekSecond", desc := "(III)Z" } : Jvm.MethodName) ({ cls := "VerseCommittee$Findings", name := "seekSecond", desc := "(III)Z" } : Jvm.MethodName)) ∈ BIG := big_mem 45 (by decide +kernel) rfl
theorem w_4c0a5463 : (Jvm.Cond.selects "VerseCommittee$Findings" ({ cls := "VerseCommittee$Findings", name := "markAlike", desc := "(II)Z" } : Jvm.MethodName) ({ cls := "VerseCommittee$Findings", name := "markAlike", desc := "(II)Z" } : Jvm.MethodName)) ∈ BIG := big_mem 46 (by decide +kernel) rfl
theorem w_29118fee : (Jvm.Cond.selects "VerseCommittee$Findings" ({ cls := "VerseCommittee$Findings", name := "addPlaces", desc := "(I[I)V" } : Jvm.MethodName) ({ cls := "VerseCommittee$Findings", name := "addPlaces", desc := "(I[I)V" } : Jvm.MethodName)) ∈ BIG := big_mem 47 (by decide +kernel) rfl
theorem w_a460d9c6 : (Jvm.Cond.selects "VerseCommittee$Findings" ({ cls := "VerseCommittee$Findings", name := "isUnlike", desc := "(II)Z" } : Jvm.MethodName) ({ cls := "VerseCommittee$Findings", name := "isUnlike", desc := "(II)Z" } : Jvm.MethodName)) ∈ BIG := big_mem 48 (by decide +kernel) rfl
theorem w_c1bb0434 : (Jvm.Cond.selects "VerseCommittee$Findings" ({ cls := "VerseCommittee$Findings", name := "shareClause", desc := "(II)Z" } : Jvm.MethodName) ({ cls := "VerseCommittee$Findings", name := "shareClause", desc := "(II)Z" } : Jvm.MethodName)) ∈ BIG := big_mem 49 (by decide +kernel) rfl
theorem w_1b7f8777 : (Jvm.Cond.selects "VerseCommittee$Rendering" ({ cls := "VerseCommittee$Rendering", name := "nextSlot", desc := "(II)I" } : Jvm.MethodName) ({ cls := "VerseCommittee$Rendering", name := "nextSlot", desc := "(II)I" } : Jvm.MethodName)) ∈ BIG := big_mem 50 (by decide +kernel) rfl
theorem w_2c35a5b7 : (Jvm.Cond.selects "VerseCommittee$Choices" ({ cls := "VerseCommittee$Choices", name := "placeOf", desc := "(I)I" } : Jvm.MethodName) ({ cls := "VerseCommittee$Choices", name := "placeOf", desc := "(I)I" } : Jvm.MethodName)) ∈ BIG := big_mem 51 (by decide +kernel) rfl
theorem w_b819b50e : (Jvm.Cond.selects "VerseCommittee$Choices" ({ cls := "VerseCommittee$Choices", name := "isOption", desc := "(II)Z" } : Jvm.MethodName) ({ cls := "VerseCommittee$Choices", name := "isOption", desc := "(II)Z" } : Jvm.MethodName)) ∈ BIG := big_mem 52 (by decide +kernel) rfl
theorem w_6fccdd45 : (Jvm.Cond.selects "VerseCommittee$Choices" ({ cls := "VerseCommittee$Choices", name := "arePart", desc := "(II)Z" } : Jvm.MethodName) ({ cls := "VerseCommittee$Choices", name := "arePart", desc := "(II)Z" } : Jvm.MethodName)) ∈ BIG := big_mem 53 (by decide +kernel) rfl
theorem w_4be44a75 : (Jvm.Cond.selects "VerseCommittee$Choices" ({ cls := "VerseCommittee$Choices", name := "addPrices", desc := "(LVerseCommittee$Rendering;)V" } : Jvm.MethodName) ({ cls := "VerseCommittee$Choices", name := "addPrices", desc := "(LVerseCommittee$Rendering;)V" } : Jvm.MethodName)) ∈ BIG := big_mem 54 (by decide +kernel) rfl
theorem w_ca8aab24 : (Jvm.Cond.selects "VerseCommittee$Choices" ({ cls := "VerseCommittee$Choices", name := "barByClauses", desc := "(I[II)V" } : Jvm.MethodName) ({ cls := "VerseCommittee$Choices", name := "barByClauses", desc := "(I[II)V" } : Jvm.MethodName)) ∈ BIG := big_mem 55 (by decide +kernel) rfl
theorem w_87073835 : (Jvm.Cond.selects "VerseCommittee$Choices" ({ cls := "VerseCommittee$Choices", name := "barOthers", desc := "(II)V" } : Jvm.MethodName) ({ cls := "VerseCommittee$Choices", name := "barOthers", desc := "(II)V" } : Jvm.MethodName)) ∈ BIG := big_mem 56 (by decide +kernel) rfl
theorem w_74f29e08 : (Jvm.Cond.selects "VerseCommittee$Choices" ({ cls := "VerseCommittee$Choices", name := "mayStand", desc := "(I)Z" } : Jvm.MethodName) ({ cls := "VerseCommittee$Choices", name := "mayStand", desc := "(I)Z" } : Jvm.MethodName)) ∈ BIG := big_mem 57 (by decide +kernel) rfl
theorem w_e2da76cf : (Jvm.Cond.selects "VerseCommittee$Choices" ({ cls := "VerseCommittee$Choices", name := "chosen", desc := "(I)I" } : Jvm.MethodName) ({ cls := "VerseCommittee$Choices", name := "chosen", desc := "(I)I" } : Jvm.MethodName)) ∈ BIG := big_mem 58 (by decide +kernel) rfl
theorem w_b403c285 : (Jvm.Cond.selects "VerseCommittee$Choices" ({ cls := "VerseCommittee$Choices", name := "choose", desc := "(II)V" } : Jvm.MethodName) ({ cls := "VerseCommittee$Choices", name := "choose", desc := "(II)V" } : Jvm.MethodName)) ∈ BIG := big_mem 59 (by decide +kernel) rfl
theorem w_011ef822 : (Jvm.Cond.selects "VerseCommittee$Choices" ({ cls := "VerseCommittee$Choices", name := "choiceOfRow", desc := "()I" } : Jvm.MethodName) ({ cls := "VerseCommittee$Choices", name := "choiceOfRow", desc := "()I" } : Jvm.MethodName)) ∈ BIG := big_mem 60 (by decide +kernel) rfl
theorem w_5713a796 : (Jvm.Cond.selects "VerseCommittee$Choices" ({ cls := "VerseCommittee$Choices", name := "chooseOption", desc := "(III)V" } : Jvm.MethodName) ({ cls := "VerseCommittee$Choices", name := "chooseOption", desc := "(III)V" } : Jvm.MethodName)) ∈ BIG := big_mem 61 (by decide +kernel) rfl
theorem w_8a8c528c : (Jvm.Cond.selects "VerseCommittee" ({ cls := "VerseCommittee", name := "breaksMeasure", desc := "(LVerseCommittee$Rendering;I)Z" } : Jvm.MethodName) ({ cls := "VerseCommittee", name := "breaksMeasure", desc := "(LVerseCommittee$Rendering;I)Z" } : Jvm.MethodName)) ∈ BIG := big_mem 62 (by decide +kernel) rfl
theorem w_ee5daacb : (Jvm.Cond.selects "VerseCommittee" ({ cls := "VerseCommittee", name := "wordsFixedThen", desc := "(II)[I" } : Jvm.MethodName) ({ cls := "VerseCommittee", name := "wordsFixedThen", desc := "(II)[I" } : Jvm.MethodName)) ∈ BIG := big_mem 63 (by decide +kernel) rfl
theorem w_e1bd2cd9 : (Jvm.Cond.selects "VerseCommittee$Words" ({ cls := "VerseCommittee$Words", name := "formIn", desc := "(II)I" } : Jvm.MethodName) ({ cls := "VerseCommittee$Words", name := "formIn", desc := "(II)I" } : Jvm.MethodName)) ∈ BIG := big_mem 64 (by decide +kernel) rfl
theorem w_96fb1d4d : (Jvm.Cond.selects "VerseCommittee" ({ cls := "VerseCommittee", name := "signOfAdded", desc := "(III)I" } : Jvm.MethodName) ({ cls := "VerseCommittee", name := "signOfAdded", desc := "(III)I" } : Jvm.MethodName)) ∈ BIG := big_mem 65 (by decide +kernel) rfl
theorem w_814099d6 : (Jvm.Cond.selects "VerseCommittee$Planner" ({ cls := "VerseCommittee$Planner", name := "gatherBooks", desc := "()V" } : Jvm.MethodName) ({ cls := "VerseCommittee$Planner", name := "gatherBooks", desc := "()V" } : Jvm.MethodName)) ∈ BIG := big_mem 66 (by decide +kernel) rfl
theorem w_dd4b883d : (Jvm.Cond.selects "VerseCommittee$Planner" ({ cls := "VerseCommittee$Planner", name := "daysOfCentre", desc := "()I" } : Jvm.MethodName) ({ cls := "VerseCommittee$Planner", name := "daysOfCentre", desc := "()I" } : Jvm.MethodName)) ∈ BIG := big_mem 67 (by decide +kernel) rfl
theorem w_2efd3843 : (Jvm.Cond.selects "VerseCommittee$Planner" ({ cls := "VerseCommittee$Planner", name := "give", desc := "(II)V" } : Jvm.MethodName) ({ cls := "VerseCommittee$Planner", name := "give", desc := "(II)V" } : Jvm.MethodName)) ∈ BIG := big_mem 68 (by decide +kernel) rfl
theorem w_be0371b1 : (Jvm.Cond.selects "VerseCommittee$Planner" ({ cls := "VerseCommittee$Planner", name := "mayHave", desc := "(II)Z" } : Jvm.MethodName) ({ cls := "VerseCommittee$Planner", name := "mayHave", desc := "(II)Z" } : Jvm.MethodName)) ∈ BIG := big_mem 69 (by decide +kernel) rfl
theorem w_1cb5fbf6 : (Jvm.Cond.selects "VerseCommittee$Planner" ({ cls := "VerseCommittee$Planner", name := "giveTo", desc := "(III)V" } : Jvm.MethodName) ({ cls := "VerseCommittee$Planner", name := "giveTo", desc := "(III)V" } : Jvm.MethodName)) ∈ BIG := big_mem 70 (by decide +kernel) rfl
theorem w_342956a8 : (Jvm.Cond.selects "VerseCommittee" ({ cls := "VerseCommittee", name := "firstWrongByte", desc := "(I)I" } : Jvm.MethodName) ({ cls := "VerseCommittee", name := "firstWrongByte", desc := "(I)I" } : Jvm.MethodName)) ∈ BIG := big_mem 71 (by decide +kernel) rfl
theorem w_891d61ac : (Jvm.Cond.selects "VerseCommittee$Rendering" ({ cls := "VerseCommittee$Rendering", name := "leftBits", desc := "()I" } : Jvm.MethodName) ({ cls := "VerseCommittee$Rendering", name := "leftBits", desc := "()I" } : Jvm.MethodName)) ∈ BIG := big_mem 72 (by decide +kernel) rfl
theorem w_97f41546 : (Jvm.Cond.selects "VerseCommittee$Rendering" ({ cls := "VerseCommittee$Rendering", name := "tellSlot", desc := "(I)I" } : Jvm.MethodName) ({ cls := "VerseCommittee$Rendering", name := "tellSlot", desc := "(I)I" } : Jvm.MethodName)) ∈ BIG := big_mem 73 (by decide +kernel) rfl
theorem w_84114566 : (Jvm.Cond.selects "VerseCommitteeModel" ({ cls := "VerseCommitteeModel", name := "push", desc := "(I)V" } : Jvm.MethodName) ({ cls := "VerseCommitteeModel", name := "push", desc := "(I)V" } : Jvm.MethodName)) ∈ BIG := big_mem 74 (by decide +kernel) rfl
theorem w_f8293cb5 : (Jvm.Cond.selects "VerseCommitteeModel" ({ cls := "VerseCommitteeModel", name := "isVerse", desc := "(I)Z" } : Jvm.MethodName) ({ cls := "VerseCommitteeModel", name := "isVerse", desc := "(I)Z" } : Jvm.MethodName)) ∈ BIG := big_mem 75 (by decide +kernel) rfl
theorem w_ab83187e : (Jvm.Cond.selects "VerseCommitteeModel" ({ cls := "VerseCommitteeModel", name := "isSmall", desc := "(I)Z" } : Jvm.MethodName) ({ cls := "VerseCommitteeModel", name := "isSmall", desc := "(I)Z" } : Jvm.MethodName)) ∈ BIG := big_mem 76 (by decide +kernel) rfl
theorem w_78744dea : (Jvm.Cond.selects "VerseCommitteeModel" ({ cls := "VerseCommitteeModel", name := "isOwn", desc := "(II)Z" } : Jvm.MethodName) ({ cls := "VerseCommitteeModel", name := "isOwn", desc := "(II)Z" } : Jvm.MethodName)) ∈ BIG := big_mem 77 (by decide +kernel) rfl
theorem w_f3cad787 : (Jvm.Cond.selects "VerseCommitteeModel" ({ cls := "VerseCommitteeModel", name := "spells", desc := "(III)V" } : Jvm.MethodName) ({ cls := "VerseCommitteeModel", name := "spells", desc := "(III)V" } : Jvm.MethodName)) ∈ BIG := big_mem 78 (by decide +kernel) rfl
theorem w_7e17cc8f : (Jvm.Cond.selects "VerseCommitteeModel" ({ cls := "VerseCommitteeModel", name := "isWord", desc := "(I)Z" } : Jvm.MethodName) ({ cls := "VerseCommitteeModel", name := "isWord", desc := "(I)Z" } : Jvm.MethodName)) ∈ BIG := big_mem 79 (by decide +kernel) rfl
theorem w_ce1c6efc : (Jvm.Cond.selects "VerseCommitteeModel" ({ cls := "VerseCommitteeModel", name := "syllablesOf", desc := "(I)I" } : Jvm.MethodName) ({ cls := "VerseCommitteeModel", name := "syllablesOf", desc := "(I)I" } : Jvm.MethodName)) ∈ BIG := big_mem 80 (by decide +kernel) rfl
theorem w_51f8676f : (Jvm.Cond.selects "VerseCommitteeModel" ({ cls := "VerseCommitteeModel", name := "isDay", desc := "(I)Z" } : Jvm.MethodName) ({ cls := "VerseCommitteeModel", name := "isDay", desc := "(I)Z" } : Jvm.MethodName)) ∈ BIG := big_mem 81 (by decide +kernel) rfl
theorem w_4d61475f : (Jvm.Cond.selects "VerseCommitteeModel" ({ cls := "VerseCommitteeModel", name := "isGood", desc := "()Z" } : Jvm.MethodName) ({ cls := "VerseCommitteeModel", name := "isGood", desc := "()Z" } : Jvm.MethodName)) ∈ BIG := big_mem 82 (by decide +kernel) rfl
theorem w_c8a30ba8 : (Jvm.Cond.selects "VerseCommitteeModel" ({ cls := "VerseCommitteeModel", name := "clause", desc := "()V" } : Jvm.MethodName) ({ cls := "VerseCommitteeModel", name := "clause", desc := "()V" } : Jvm.MethodName)) ∈ BIG := big_mem 83 (by decide +kernel) rfl
theorem w_b57f3818 : (Jvm.Cond.selects "VerseCommitteeModel" ({ cls := "VerseCommitteeModel", name := "here", desc := "()I" } : Jvm.MethodName) ({ cls := "VerseCommitteeModel", name := "here", desc := "()I" } : Jvm.MethodName)) ∈ BIG := big_mem 84 (by decide +kernel) rfl
theorem w_32ff4e45 : (Jvm.Cond.selects "VerseCommitteeModel" ({ cls := "VerseCommitteeModel", name := "fails", desc := "(II)V" } : Jvm.MethodName) ({ cls := "VerseCommitteeModel", name := "fails", desc := "(II)V" } : Jvm.MethodName)) ∈ BIG := big_mem 85 (by decide +kernel) rfl
theorem w_05cdd5f4 : (Jvm.Cond.selects "VerseCommitteeModel" ({ cls := "VerseCommitteeModel", name := "readsMust", desc := "(I)V" } : Jvm.MethodName) ({ cls := "VerseCommitteeModel", name := "readsMust", desc := "(I)V" } : Jvm.MethodName)) ∈ BIG := big_mem 86 (by decide +kernel) rfl
theorem w_6c0c60eb : (Jvm.Cond.selects "VerseCommitteeModel" ({ cls := "VerseCommitteeModel", name := "readsNumber", desc := "(I)I" } : Jvm.MethodName) ({ cls := "VerseCommitteeModel", name := "readsNumber", desc := "(I)I" } : Jvm.MethodName)) ∈ BIG := big_mem 87 (by decide +kernel) rfl
theorem w_0670c026 : (Jvm.Cond.selects "VerseCommitteeModel" ({ cls := "VerseCommitteeModel", name := "seesDigit", desc := "()Z" } : Jvm.MethodName) ({ cls := "VerseCommitteeModel", name := "seesDigit", desc := "()Z" } : Jvm.MethodName)) ∈ BIG := big_mem 88 (by decide +kernel) rfl
theorem w_4ce63691 : (Jvm.Cond.selects "VerseCommitteeModel" ({ cls := "VerseCommitteeModel", name := "must", desc := "(I)V" } : Jvm.MethodName) ({ cls := "VerseCommitteeModel", name := "must", desc := "(I)V" } : Jvm.MethodName)) ∈ BIG := big_mem 89 (by decide +kernel) rfl
theorem w_5d8e51e0 : (Jvm.Cond.selects "VerseCommitteeModel" ({ cls := "VerseCommitteeModel", name := "readsRank", desc := "(I)V" } : Jvm.MethodName) ({ cls := "VerseCommitteeModel", name := "readsRank", desc := "(I)V" } : Jvm.MethodName)) ∈ BIG := big_mem 90 (by decide +kernel) rfl
theorem w_55f11be4 : (Jvm.Cond.selects "VerseCommitteeModel" ({ cls := "VerseCommitteeModel", name := "condition", desc := "()V" } : Jvm.MethodName) ({ cls := "VerseCommitteeModel", name := "condition", desc := "()V" } : Jvm.MethodName)) ∈ BIG := big_mem 91 (by decide +kernel) rfl
theorem w_fe61fa4f : (Jvm.Cond.selects "VerseCommitteeModel" ({ cls := "VerseCommitteeModel", name := "opens", desc := "()V" } : Jvm.MethodName) ({ cls := "VerseCommitteeModel", name := "opens", desc := "()V" } : Jvm.MethodName)) ∈ BIG := big_mem 92 (by decide +kernel) rfl
theorem w_fc0c00db : (Jvm.Cond.selects "VerseCommitteeModel" ({ cls := "VerseCommitteeModel", name := "puts", desc := "(I)V" } : Jvm.MethodName) ({ cls := "VerseCommitteeModel", name := "puts", desc := "(I)V" } : Jvm.MethodName)) ∈ BIG := big_mem 93 (by decide +kernel) rfl
theorem w_a9ad8867 : (Jvm.Cond.selects "VerseCommitteeModel" ({ cls := "VerseCommitteeModel", name := "piece", desc := "()V" } : Jvm.MethodName) ({ cls := "VerseCommitteeModel", name := "piece", desc := "()V" } : Jvm.MethodName)) ∈ BIG := big_mem 94 (by decide +kernel) rfl
theorem w_c0ae9d3f : (Jvm.Cond.selects "VerseCommitteeModel" ({ cls := "VerseCommitteeModel", name := "factor", desc := "()V" } : Jvm.MethodName) ({ cls := "VerseCommitteeModel", name := "factor", desc := "()V" } : Jvm.MethodName)) ∈ BIG := big_mem 95 (by decide +kernel) rfl
theorem w_c6863cad : (Jvm.Cond.selects "VerseCommitteeModel" ({ cls := "VerseCommitteeModel", name := "emit", desc := "(II)V" } : Jvm.MethodName) ({ cls := "VerseCommitteeModel", name := "emit", desc := "(II)V" } : Jvm.MethodName)) ∈ BIG := big_mem 96 (by decide +kernel) rfl
theorem w_b2ecec31 : (Jvm.Cond.selects "VerseCommitteeModel" ({ cls := "VerseCommitteeModel", name := "goesOn", desc := "()Z" } : Jvm.MethodName) ({ cls := "VerseCommitteeModel", name := "goesOn", desc := "()Z" } : Jvm.MethodName)) ∈ BIG := big_mem 97 (by decide +kernel) rfl
theorem w_d24f1dec : (Jvm.Cond.selects "VerseCommitteeModel" ({ cls := "VerseCommitteeModel", name := "sums", desc := "(Z)V" } : Jvm.MethodName) ({ cls := "VerseCommitteeModel", name := "sums", desc := "(Z)V" } : Jvm.MethodName)) ∈ BIG := big_mem 98 (by decide +kernel) rfl
theorem w_0ef13f33 : (Jvm.Cond.selects "VerseCommitteeModel" ({ cls := "VerseCommitteeModel", name := "top", desc := "()I" } : Jvm.MethodName) ({ cls := "VerseCommitteeModel", name := "top", desc := "()I" } : Jvm.MethodName)) ∈ BIG := big_mem 99 (by decide +kernel) rfl
theorem w_07f352b2 : (Jvm.Cond.selects "VerseCommitteeModel" ({ cls := "VerseCommitteeModel", name := "ends", desc := "()V" } : Jvm.MethodName) ({ cls := "VerseCommitteeModel", name := "ends", desc := "()V" } : Jvm.MethodName)) ∈ BIG := big_mem 100 (by decide +kernel) rfl
theorem w_820ab394 : (Jvm.Cond.selects "VerseCommitteeModel" ({ cls := "VerseCommitteeModel", name := "goesBehind", desc := "()Z" } : Jvm.MethodName) ({ cls := "VerseCommitteeModel", name := "goesBehind", desc := "()Z" } : Jvm.MethodName)) ∈ BIG := big_mem 101 (by decide +kernel) rfl
theorem w_5152db6f : (Jvm.Cond.selects "VerseCommitteeModel" ({ cls := "VerseCommitteeModel", name := "joins", desc := "(Z)V" } : Jvm.MethodName) ({ cls := "VerseCommitteeModel", name := "joins", desc := "(Z)V" } : Jvm.MethodName)) ∈ BIG := big_mem 102 (by decide +kernel) rfl
theorem w_e2867eb0 : (Jvm.Cond.selects "VerseCommitteeModel" ({ cls := "VerseCommitteeModel", name := "neededAt", desc := "(III)I" } : Jvm.MethodName) ({ cls := "VerseCommitteeModel", name := "neededAt", desc := "(III)I" } : Jvm.MethodName)) ∈ BIG := big_mem 103 (by decide +kernel) rfl
theorem w_cbb4f768 : (Jvm.Cond.selects "VerseCommitteeModel" ({ cls := "VerseCommitteeModel", name := "lastOf", desc := "(IIII)I" } : Jvm.MethodName) ({ cls := "VerseCommitteeModel", name := "lastOf", desc := "(IIII)I" } : Jvm.MethodName)) ∈ BIG := big_mem 104 (by decide +kernel) rfl
theorem w_4938585f : (Jvm.Cond.selects "VerseCommitteeModel" ({ cls := "VerseCommitteeModel", name := "isInForce", desc := "(III)Z" } : Jvm.MethodName) ({ cls := "VerseCommitteeModel", name := "isInForce", desc := "(III)Z" } : Jvm.MethodName)) ∈ BIG := big_mem 105 (by decide +kernel) rfl
theorem w_a2a26d7d : (Jvm.Cond.selects "VerseCommitteeModel" ({ cls := "VerseCommitteeModel", name := "companyOf", desc := "(I)I" } : Jvm.MethodName) ({ cls := "VerseCommitteeModel", name := "companyOf", desc := "(I)I" } : Jvm.MethodName)) ∈ BIG := big_mem 106 (by decide +kernel) rfl
theorem w_be13eafd : (Jvm.Cond.selects "VerseCommitteeModel" ({ cls := "VerseCommitteeModel", name := "daysOf", desc := "(II)I" } : Jvm.MethodName) ({ cls := "VerseCommitteeModel", name := "daysOf", desc := "(II)I" } : Jvm.MethodName)) ∈ BIG := big_mem 107 (by decide +kernel) rfl
theorem w_446432f5 : (Jvm.Cond.selects "VerseCommitteeModel" ({ cls := "VerseCommitteeModel", name := "copyOf", desc := "(II)I" } : Jvm.MethodName) ({ cls := "VerseCommitteeModel", name := "copyOf", desc := "(II)I" } : Jvm.MethodName)) ∈ BIG := big_mem 108 (by decide +kernel) rfl
theorem w_24701e27 : (Jvm.Cond.selects "VerseCommitteeModel" ({ cls := "VerseCommitteeModel", name := "tokensOf", desc := "(II)I" } : Jvm.MethodName) ({ cls := "VerseCommitteeModel", name := "tokensOf", desc := "(II)I" } : Jvm.MethodName)) ∈ BIG := big_mem 109 (by decide +kernel) rfl
theorem w_d866c6fc : (Jvm.Cond.selects "VerseCommitteeModel" ({ cls := "VerseCommitteeModel", name := "worth", desc := "(III)I" } : Jvm.MethodName) ({ cls := "VerseCommitteeModel", name := "worth", desc := "(III)I" } : Jvm.MethodName)) ∈ BIG := big_mem 110 (by decide +kernel) rfl
theorem w_ba550012 : (Jvm.Cond.selects "VerseCommitteeModel" ({ cls := "VerseCommitteeModel", name := "does", desc := "(II)V" } : Jvm.MethodName) ({ cls := "VerseCommitteeModel", name := "does", desc := "(II)V" } : Jvm.MethodName)) ∈ BIG := big_mem 111 (by decide +kernel) rfl
theorem w_c7f92502 : (Jvm.Cond.selects "VerseCommitteeModel" ({ cls := "VerseCommitteeModel", name := "valueOf", desc := "(III)I" } : Jvm.MethodName) ({ cls := "VerseCommitteeModel", name := "valueOf", desc := "(III)I" } : Jvm.MethodName)) ∈ BIG := big_mem 112 (by decide +kernel) rfl
theorem w_0fd6fddd : (Jvm.Cond.selects "VerseCommitteeModel" ({ cls := "VerseCommitteeModel", name := "fewest", desc := "(II)I" } : Jvm.MethodName) ({ cls := "VerseCommitteeModel", name := "fewest", desc := "(II)I" } : Jvm.MethodName)) ∈ BIG := big_mem 113 (by decide +kernel) rfl
theorem w_9e248573 : (Jvm.Cond.selects "VerseCommitteeModel" ({ cls := "VerseCommitteeModel", name := "isOpen", desc := "(I)Z" } : Jvm.MethodName) ({ cls := "VerseCommitteeModel", name := "isOpen", desc := "(I)Z" } : Jvm.MethodName)) ∈ BIG := big_mem 114 (by decide +kernel) rfl
theorem w_fd6940e4 : (Jvm.Cond.selects "VerseCommitteeModel" ({ cls := "VerseCommitteeModel", name := "isRendering", desc := "(I)Z" } : Jvm.MethodName) ({ cls := "VerseCommitteeModel", name := "isRendering", desc := "(I)Z" } : Jvm.MethodName)) ∈ BIG := big_mem 115 (by decide +kernel) rfl
theorem w_2ac7d7aa : (Jvm.Cond.selects "VerseCommitteeModel" ({ cls := "VerseCommitteeModel", name := "isOfStage", desc := "(III)Z" } : Jvm.MethodName) ({ cls := "VerseCommitteeModel", name := "isOfStage", desc := "(III)Z" } : Jvm.MethodName)) ∈ BIG := big_mem 116 (by decide +kernel) rfl
theorem w_39e3f84f : (Jvm.Cond.selects "VerseCommitteeModel" ({ cls := "VerseCommitteeModel", name := "fixedOf", desc := "(I)I" } : Jvm.MethodName) ({ cls := "VerseCommitteeModel", name := "fixedOf", desc := "(I)I" } : Jvm.MethodName)) ∈ BIG := big_mem 117 (by decide +kernel) rfl
theorem w_e2b9b88a : (Jvm.Cond.selects "VerseCommitteeModel" ({ cls := "VerseCommitteeModel", name := "tells", desc := "(II)V" } : Jvm.MethodName) ({ cls := "VerseCommitteeModel", name := "tells", desc := "(II)V" } : Jvm.MethodName)) ∈ BIG := big_mem 118 (by decide +kernel) rfl
theorem w_8e9e1873 : (Jvm.Cond.selects "VerseCommitteeModel" ({ cls := "VerseCommitteeModel", name := "goesBack", desc := "(II)I" } : Jvm.MethodName) ({ cls := "VerseCommitteeModel", name := "goesBack", desc := "(II)I" } : Jvm.MethodName)) ∈ BIG := big_mem 119 (by decide +kernel) rfl
theorem w_2ea5aef0 : (Jvm.Cond.selects "VerseCommitteeModel" ({ cls := "VerseCommitteeModel", name := "goesWithout", desc := "(II)Z" } : Jvm.MethodName) ({ cls := "VerseCommitteeModel", name := "goesWithout", desc := "(II)Z" } : Jvm.MethodName)) ∈ BIG := big_mem 120 (by decide +kernel) rfl
theorem w_49eb30cd : (Jvm.Cond.selects "VerseCommitteeModel" ({ cls := "VerseCommitteeModel", name := "unfixes", desc := "(I)V" } : Jvm.MethodName) ({ cls := "VerseCommitteeModel", name := "unfixes", desc := "(I)V" } : Jvm.MethodName)) ∈ BIG := big_mem 121 (by decide +kernel) rfl
theorem w_93d33b7e : (Jvm.Cond.selects "VerseCommitteeModel" ({ cls := "VerseCommitteeModel", name := "fixedAt", desc := "(II)I" } : Jvm.MethodName) ({ cls := "VerseCommitteeModel", name := "fixedAt", desc := "(II)I" } : Jvm.MethodName)) ∈ BIG := big_mem 122 (by decide +kernel) rfl
theorem w_fa2409a5 : (Jvm.Cond.selects "VerseCommitteeModel" ({ cls := "VerseCommitteeModel", name := "breachesOf", desc := "(II)I" } : Jvm.MethodName) ({ cls := "VerseCommitteeModel", name := "breachesOf", desc := "(II)I" } : Jvm.MethodName)) ∈ BIG := big_mem 123 (by decide +kernel) rfl
theorem w_3ef93f8e : (Jvm.Cond.selects "VerseCommitteeModel" ({ cls := "VerseCommitteeModel", name := "isMeant", desc := "(II)Z" } : Jvm.MethodName) ({ cls := "VerseCommitteeModel", name := "isMeant", desc := "(II)Z" } : Jvm.MethodName)) ∈ BIG := big_mem 124 (by decide +kernel) rfl
theorem w_ffc7997d : (Jvm.Cond.selects "VerseCommitteeModel" ({ cls := "VerseCommitteeModel", name := "turnsBy", desc := "(III)Z" } : Jvm.MethodName) ({ cls := "VerseCommitteeModel", name := "turnsBy", desc := "(III)Z" } : Jvm.MethodName)) ∈ BIG := big_mem 125 (by decide +kernel) rfl
theorem w_1f6e4b59 : (Jvm.Cond.selects "VerseCommitteeModel" ({ cls := "VerseCommitteeModel", name := "quarrelsOf", desc := "(II)I" } : Jvm.MethodName) ({ cls := "VerseCommitteeModel", name := "quarrelsOf", desc := "(II)I" } : Jvm.MethodName)) ∈ BIG := big_mem 126 (by decide +kernel) rfl
theorem w_37b54201 : (Jvm.Cond.selects "VerseCommitteeModel" ({ cls := "VerseCommitteeModel", name := "isAsked", desc := "(III)Z" } : Jvm.MethodName) ({ cls := "VerseCommitteeModel", name := "isAsked", desc := "(III)Z" } : Jvm.MethodName)) ∈ BIG := big_mem 127 (by decide +kernel) rfl
theorem w_850c6052 : (Jvm.Cond.selects "VerseCommitteeModel" ({ cls := "VerseCommitteeModel", name := "unlikes", desc := "(I)I" } : Jvm.MethodName) ({ cls := "VerseCommitteeModel", name := "unlikes", desc := "(I)I" } : Jvm.MethodName)) ∈ BIG := big_mem 128 (by decide +kernel) rfl
theorem w_4c8d4ec9 : (Jvm.Cond.selects "VerseCommitteeModel" ({ cls := "VerseCommitteeModel", name := "isUnlike", desc := "(IIII)Z" } : Jvm.MethodName) ({ cls := "VerseCommitteeModel", name := "isUnlike", desc := "(IIII)Z" } : Jvm.MethodName)) ∈ BIG := big_mem 129 (by decide +kernel) rfl
theorem w_9d7bb5d3 : (Jvm.Cond.selects "VerseCommitteeModel" ({ cls := "VerseCommitteeModel", name := "areTurnedAlike", desc := "(IIII)Z" } : Jvm.MethodName) ({ cls := "VerseCommitteeModel", name := "areTurnedAlike", desc := "(IIII)Z" } : Jvm.MethodName)) ∈ BIG := big_mem 130 (by decide +kernel) rfl
theorem w_3358c02f : (Jvm.Cond.selects "VerseCommitteeModel" ({ cls := "VerseCommitteeModel", name := "wordOf", desc := "(III)I" } : Jvm.MethodName) ({ cls := "VerseCommitteeModel", name := "wordOf", desc := "(III)I" } : Jvm.MethodName)) ∈ BIG := big_mem 131 (by decide +kernel) rfl
theorem w_0da5cd43 : (Jvm.Cond.selects "VerseCommitteeModel" ({ cls := "VerseCommitteeModel", name := "mustBeAlike", desc := "(II)Z" } : Jvm.MethodName) ({ cls := "VerseCommitteeModel", name := "mustBeAlike", desc := "(II)Z" } : Jvm.MethodName)) ∈ BIG := big_mem 132 (by decide +kernel) rfl
theorem w_54491cfb : (Jvm.Cond.selects "VerseCommitteeModel" ({ cls := "VerseCommitteeModel", name := "placeOf", desc := "(I)I" } : Jvm.MethodName) ({ cls := "VerseCommitteeModel", name := "placeOf", desc := "(I)I" } : Jvm.MethodName)) ∈ BIG := big_mem 133 (by decide +kernel) rfl
theorem w_6ffe30d9 : (Jvm.Cond.selects "VerseCommitteeModel" ({ cls := "VerseCommitteeModel", name := "isChoice", desc := "(I)Z" } : Jvm.MethodName) ({ cls := "VerseCommitteeModel", name := "isChoice", desc := "(I)Z" } : Jvm.MethodName)) ∈ BIG := big_mem 134 (by decide +kernel) rfl
theorem w_8be3aca9 : (Jvm.Cond.selects "VerseCommitteeModel" ({ cls := "VerseCommitteeModel", name := "prices", desc := "()V" } : Jvm.MethodName) ({ cls := "VerseCommitteeModel", name := "prices", desc := "()V" } : Jvm.MethodName)) ∈ BIG := big_mem 135 (by decide +kernel) rfl
theorem w_c83ca9eb : (Jvm.Cond.selects "VerseCommitteeModel" ({ cls := "VerseCommitteeModel", name := "bars", desc := "(II)V" } : Jvm.MethodName) ({ cls := "VerseCommitteeModel", name := "bars", desc := "(II)V" } : Jvm.MethodName)) ∈ BIG := big_mem 136 (by decide +kernel) rfl
theorem w_e879aec4 : (Jvm.Cond.selects "VerseCommitteeModel" ({ cls := "VerseCommitteeModel", name := "mayBe", desc := "(I)Z" } : Jvm.MethodName) ({ cls := "VerseCommitteeModel", name := "mayBe", desc := "(I)Z" } : Jvm.MethodName)) ∈ BIG := big_mem 137 (by decide +kernel) rfl
theorem w_6a8d70fa : (Jvm.Cond.selects "VerseCommitteeModel" ({ cls := "VerseCommitteeModel", name := "costOf", desc := "(I)I" } : Jvm.MethodName) ({ cls := "VerseCommitteeModel", name := "costOf", desc := "(I)I" } : Jvm.MethodName)) ∈ BIG := big_mem 138 (by decide +kernel) rfl
theorem w_99e71542 : (Jvm.Cond.selects "VerseCommitteeModel" ({ cls := "VerseCommitteeModel", name := "isAhead", desc := "(IIII)Z" } : Jvm.MethodName) ({ cls := "VerseCommitteeModel", name := "isAhead", desc := "(IIII)Z" } : Jvm.MethodName)) ∈ BIG := big_mem 139 (by decide +kernel) rfl
theorem w_63eab92c : (Jvm.Cond.selects "VerseCommitteeModel" ({ cls := "VerseCommitteeModel", name := "isOff", desc := "(I)Z" } : Jvm.MethodName) ({ cls := "VerseCommitteeModel", name := "isOff", desc := "(I)Z" } : Jvm.MethodName)) ∈ BIG := big_mem 140 (by decide +kernel) rfl
theorem w_a10f8083 : (Jvm.Cond.selects "VerseCommitteeModel" ({ cls := "VerseCommitteeModel", name := "prints", desc := "(I)V" } : Jvm.MethodName) ({ cls := "VerseCommitteeModel", name := "prints", desc := "(I)V" } : Jvm.MethodName)) ∈ BIG := big_mem 141 (by decide +kernel) rfl
theorem w_5697f572 : (Jvm.Cond.selects "VerseCommitteeModel" ({ cls := "VerseCommitteeModel", name := "lists", desc := "()V" } : Jvm.MethodName) ({ cls := "VerseCommitteeModel", name := "lists", desc := "()V" } : Jvm.MethodName)) ∈ BIG := big_mem 142 (by decide +kernel) rfl
theorem w_974f4941 : (Jvm.Cond.selects "VerseCommitteeModel" ({ cls := "VerseCommitteeModel", name := "bestRow", desc := "()I" } : Jvm.MethodName) ({ cls := "VerseCommitteeModel", name := "bestRow", desc := "()I" } : Jvm.MethodName)) ∈ BIG := big_mem 143 (by decide +kernel) rfl
theorem w_3075344d : (Jvm.Cond.selects "VerseCommitteeModel" ({ cls := "VerseCommitteeModel", name := "rows", desc := "()I" } : Jvm.MethodName) ({ cls := "VerseCommitteeModel", name := "rows", desc := "()I" } : Jvm.MethodName)) ∈ BIG := big_mem 144 (by decide +kernel) rfl
theorem w_803e32ce : (Jvm.Cond.selects "VerseCommitteeModel" ({ cls := "VerseCommitteeModel", name := "daysBy", desc := "(I)I" } : Jvm.MethodName) ({ cls := "VerseCommitteeModel", name := "daysBy", desc := "(I)I" } : Jvm.MethodName)) ∈ BIG := big_mem 145 (by decide +kernel) rfl
theorem w_fd5e1ccf : (Jvm.Cond.selects "VerseCommitteeModel" ({ cls := "VerseCommitteeModel", name := "fixedVerse", desc := "(I)I" } : Jvm.MethodName) ({ cls := "VerseCommitteeModel", name := "fixedVerse", desc := "(I)I" } : Jvm.MethodName)) ∈ BIG := big_mem 146 (by decide +kernel) rfl
theorem w_b43cba97 : (Jvm.Cond.selects "VerseCommitteeModel" ({ cls := "VerseCommitteeModel", name := "leftOf", desc := "(I)I" } : Jvm.MethodName) ({ cls := "VerseCommitteeModel", name := "leftOf", desc := "(I)I" } : Jvm.MethodName)) ∈ BIG := big_mem 147 (by decide +kernel) rfl
set_option maxRecDepth 100000 in
theorem w_93c426f0 : (Jvm.Cond.initialized "VerseCommittee") ∈ BIG := tb_1 1 rfl rfl
set_option maxRecDepth 100000 in
theorem w_fea14522 : (Jvm.Cond.initialized "VerseCommittee$Words") ∈ BIG := tb_1 2 rfl rfl
set_option maxRecDepth 100000 in
theorem w_10e27d46 : (Jvm.Cond.initialized "VerseCommittee$Verses") ∈ BIG := tb_1 3 rfl rfl
set_option maxRecDepth 100000 in
theorem w_2113d9a9 : (Jvm.Cond.initialized "VerseCommittee$People") ∈ BIG := tb_1 4 rfl rfl
set_option maxRecDepth 100000 in
theorem w_1d8cd083 : (Jvm.Cond.initialized "VerseCommittee$Laws") ∈ BIG := tb_1 5 rfl rfl
set_option maxRecDepth 100000 in
theorem w_e9e13901 : (Jvm.Cond.initialized "VerseCommittee$Shelf") ∈ BIG := tb_1 6 rfl rfl
set_option maxRecDepth 100000 in
theorem w_64e3844b : (Jvm.Cond.initialized "VerseCommittee$Parser") ∈ BIG := tb_1 7 rfl rfl
set_option maxRecDepth 100000 in
theorem w_bd4fc458 : (Jvm.Cond.initialized "VerseCommittee$Reckoner") ∈ BIG := tb_1 8 rfl rfl
set_option maxRecDepth 100000 in
theorem w_c5aaac22 : (Jvm.Cond.initialized "VerseCommittee$Findings") ∈ BIG := tb_1 9 rfl rfl
set_option maxRecDepth 100000 in
theorem w_79916c1d : (Jvm.Cond.initialized "VerseCommittee$Choices") ∈ BIG := tb_1 10 rfl rfl
set_option maxRecDepth 100000 in
theorem w_e42eab56 : (Jvm.Cond.initialized "VerseCommittee$Planner") ∈ BIG := tb_1 11 rfl rfl
set_option maxRecDepth 100000 in
theorem w_2e12d08c : (Jvm.Cond.initialized "VerseCommitteeModel") ∈ BIG := tb_1 12 rfl rfl
set_option maxRecDepth 100000 in
theorem w_226391b4 : (Jvm.Cond.initialized "java/lang/Math") ∈ BIG := tb_1 13 rfl rfl
set_option maxRecDepth 100000 in
theorem w_4926ae5f : (Jvm.Cond.initialized "VerseCommittee$Rendering") ∈ BIG := tb_1 14 rfl rfl
set_option maxRecDepth 100000 in
theorem w_d3e2e11c : (Jvm.Cond.initialized "java/lang/Integer") ∈ BIG := tb_1 15 rfl rfl
set_option maxRecDepth 100000 in
theorem w_9c13f5ab : (Jvm.Cond.methodLink "VerseCommitteeLaw" (9 : Nat) ({ cls := "VerseCommittee", name := "<init>", desc := "()V" } : Jvm.MethodName)) ∈ BIG := tb_1 18 rfl rfl
set_option maxRecDepth 100000 in
theorem w_5a5bfc68 : (Jvm.Cond.instanceMethod ({ cls := "VerseCommittee", name := "<init>", desc := "()V" } : Jvm.MethodName)) ∈ BIG := tb_1 19 rfl rfl
set_option maxRecDepth 100000 in
theorem w_1aeae1c4 : (Jvm.Cond.code ({ cls := "VerseCommittee", name := "<init>", desc := "()V" } : Jvm.MethodName) prog_1_method_1_code (1 : Nat) (Option.none : Option Jvm.ClassFile.FieldType)) ∈ BIG := tb_1 20 rfl rfl
set_option maxRecDepth 100000 in
theorem w_18bc2c87 : (Jvm.Cond.methodLink "VerseCommittee" (1 : Nat) ({ cls := "java/lang/Object", name := "<init>", desc := "()V" } : Jvm.MethodName)) ∈ BIG := tb_1 21 rfl rfl
set_option maxRecDepth 100000 in
theorem w_08b13607 : (Jvm.Cond.instanceMethod ({ cls := "java/lang/Object", name := "<init>", desc := "()V" } : Jvm.MethodName)) ∈ BIG := tb_1 22 rfl rfl
set_option maxRecDepth 100000 in
theorem w_28b5f134 : (Jvm.Cond.instanceMethod ({ cls := "VerseCommittee$Words", name := "<init>", desc := "()V" } : Jvm.MethodName)) ∈ BIG := tb_1 27 rfl rfl
set_option maxRecDepth 100000 in
theorem w_338a89b6 : (Jvm.Cond.code ({ cls := "VerseCommittee$Words", name := "<init>", desc := "()V" } : Jvm.MethodName) prog_12_method_1_code (1 : Nat) (Option.none : Option Jvm.ClassFile.FieldType)) ∈ BIG := tb_1 28 rfl rfl
set_option maxRecDepth 100000 in
theorem w_dd4f08ab : (Jvm.Cond.methodLink "VerseCommittee$Words" (3 : Nat) ({ cls := "java/lang/Object", name := "<init>", desc := "()V" } : Jvm.MethodName)) ∈ BIG := tb_1 29 rfl rfl
set_option maxRecDepth 100000 in
theorem w_8fb5bbb8 : (Jvm.Cond.fieldLink "VerseCommittee$Words" (11 : Nat) "VerseCommittee$Words" "letters" "[B") ∈ BIG := tb_1 30 rfl rfl
set_option maxRecDepth 100000 in
theorem w_d22f28c3 : (Jvm.Cond.fieldLink "VerseCommittee$Words" (15 : Nat) "VerseCommittee$Words" "sizes" "[B") ∈ BIG := tb_1 31 rfl rfl
set_option maxRecDepth 100000 in
theorem w_d0f2d40e : (Jvm.Cond.fieldLink "VerseCommittee$Words" (18 : Nat) "VerseCommittee$Words" "size" "I") ∈ BIG := tb_1 32 rfl rfl
set_option maxRecDepth 100000 in
theorem w_4f2272bc : (Jvm.Cond.instanceMethod ({ cls := "VerseCommittee$Verses", name := "<init>", desc := "()V" } : Jvm.MethodName)) ∈ BIG := tb_1 45 rfl rfl
set_option maxRecDepth 100000 in
theorem w_e4988b7f : (Jvm.Cond.code ({ cls := "VerseCommittee$Verses", name := "<init>", desc := "()V" } : Jvm.MethodName) prog_11_method_1_code (1 : Nat) (Option.none : Option Jvm.ClassFile.FieldType)) ∈ BIG := tb_1 46 rfl rfl
set_option maxRecDepth 100000 in
theorem w_5aaa2900 : (Jvm.Cond.methodLink "VerseCommittee$Verses" (3 : Nat) ({ cls := "java/lang/Object", name := "<init>", desc := "()V" } : Jvm.MethodName)) ∈ BIG := tb_1 47 rfl rfl
set_option maxRecDepth 100000 in
theorem w_95620601 : (Jvm.Cond.fieldLink "VerseCommittee$Verses" (9 : Nat) "VerseCommittee$Verses" "books" "[I") ∈ BIG := tb_1 50 rfl rfl
set_option maxRecDepth 100000 in
theorem w_3957b6e1 : (Jvm.Cond.fieldLink "VerseCommittee$Verses" (15 : Nat) "VerseCommittee$Verses" "measures" "[I") ∈ BIG := tb_1 51 rfl rfl
set_option maxRecDepth 100000 in
theorem w_cddf6902 : (Jvm.Cond.fieldLink "VerseCommittee$Verses" (19 : Nat) "VerseCommittee$Verses" "rows" "[[I") ∈ BIG := tb_1 52 rfl rfl
set_option maxRecDepth 100000 in
theorem w_6b77f456 : (Jvm.Cond.fieldLink "VerseCommittee$Verses" (23 : Nat) "VerseCommittee$Verses" "told" "[I") ∈ BIG := tb_1 53 rfl rfl
set_option maxRecDepth 100000 in
theorem w_6bfa585c : (Jvm.Cond.fieldLink "VerseCommittee$Verses" (26 : Nat) "VerseCommittee$Verses" "wrong" "[I") ∈ BIG := tb_1 54 rfl rfl
set_option maxRecDepth 100000 in
theorem w_03076dea : (Jvm.Cond.fieldLink "VerseCommittee$Verses" (29 : Nat) "VerseCommittee$Verses" "size" "I") ∈ BIG := tb_1 55 rfl rfl
set_option maxRecDepth 100000 in
theorem w_6833d132 : (Jvm.Cond.instanceMethod ({ cls := "VerseCommittee$People", name := "<init>", desc := "()V" } : Jvm.MethodName)) ∈ BIG := tb_1 72 rfl rfl
set_option maxRecDepth 100000 in
theorem w_228bb200 : (Jvm.Cond.code ({ cls := "VerseCommittee$People", name := "<init>", desc := "()V" } : Jvm.MethodName) prog_6_method_1_code (1 : Nat) (Option.none : Option Jvm.ClassFile.FieldType)) ∈ BIG := tb_1 73 rfl rfl
set_option maxRecDepth 100000 in
theorem w_75e9fb45 : (Jvm.Cond.methodLink "VerseCommittee$People" (3 : Nat) ({ cls := "java/lang/Object", name := "<init>", desc := "()V" } : Jvm.MethodName)) ∈ BIG := tb_1 74 rfl rfl
set_option maxRecDepth 100000 in
theorem w_c760e1e1 : (Jvm.Cond.fieldLink "VerseCommittee$People" (11 : Nat) "VerseCommittee$People" "books" "[I") ∈ BIG := tb_1 75 rfl rfl
set_option maxRecDepth 100000 in
theorem w_90b1f295 : (Jvm.Cond.fieldLink "VerseCommittee$People" (15 : Nat) "VerseCommittee$People" "rates" "[I") ∈ BIG := tb_1 76 rfl rfl
set_option maxRecDepth 100000 in
theorem w_c80900b6 : (Jvm.Cond.fieldLink "VerseCommittee$People" (18 : Nat) "VerseCommittee$People" "members" "[I") ∈ BIG := tb_1 77 rfl rfl
set_option maxRecDepth 100000 in
theorem w_c8109999 : (Jvm.Cond.fieldLink "VerseCommittee$People" (32 : Nat) "VerseCommittee$People" "centreMembers" "I") ∈ BIG := tb_1 78 rfl rfl
set_option maxRecDepth 100000 in
theorem w_a1def011 : (Jvm.Cond.fieldLink "VerseCommittee$People" (35 : Nat) "VerseCommittee$People" "centreRate" "I") ∈ BIG := tb_1 79 rfl rfl
set_option maxRecDepth 100000 in
theorem w_8dde54b2 : (Jvm.Cond.fieldLink "VerseCommittee$People" (21 : Nat) "VerseCommittee$People" "companies" "I") ∈ BIG := tb_1 80 rfl rfl
set_option maxRecDepth 100000 in
theorem w_7030d712 : (Jvm.Cond.fieldLink "VerseCommittee$People" (25 : Nat) "VerseCommittee$People" "scholars" "I") ∈ BIG := tb_1 81 rfl rfl
set_option maxRecDepth 100000 in
theorem w_c26a6612 : (Jvm.Cond.fieldLink "VerseCommittee$People" (38 : Nat) "VerseCommittee$People" "voided" "I") ∈ BIG := tb_1 82 rfl rfl
set_option maxRecDepth 100000 in
theorem w_c061ccb0 : (Jvm.Cond.instanceMethod ({ cls := "VerseCommittee$Laws", name := "<init>", desc := "()V" } : Jvm.MethodName)) ∈ BIG := tb_1 103 rfl rfl
set_option maxRecDepth 100000 in
theorem w_b646b6b2 : (Jvm.Cond.code ({ cls := "VerseCommittee$Laws", name := "<init>", desc := "()V" } : Jvm.MethodName) prog_4_method_1_code (1 : Nat) (Option.none : Option Jvm.ClassFile.FieldType)) ∈ BIG := tb_1 104 rfl rfl
set_option maxRecDepth 100000 in
theorem w_e6c69430 : (Jvm.Cond.methodLink "VerseCommittee$Laws" (3 : Nat) ({ cls := "java/lang/Object", name := "<init>", desc := "()V" } : Jvm.MethodName)) ∈ BIG := tb_1 105 rfl rfl
set_option maxRecDepth 100000 in
theorem w_5cb89095 : (Jvm.Cond.fieldLink "VerseCommittee$Laws" (13 : Nat) "VerseCommittee$Laws" "texts" "[[I") ∈ BIG := tb_1 107 rfl rfl
set_option maxRecDepth 100000 in
theorem w_e650a999 : (Jvm.Cond.fieldLink "VerseCommittee$Laws" (17 : Nat) "VerseCommittee$Laws" "companies" "[I") ∈ BIG := tb_1 108 rfl rfl
set_option maxRecDepth 100000 in
theorem w_5eee2ffe : (Jvm.Cond.fieldLink "VerseCommittee$Laws" (20 : Nat) "VerseCommittee$Laws" "firstDays" "[I") ∈ BIG := tb_1 109 rfl rfl
set_option maxRecDepth 100000 in
theorem w_7cd82864 : (Jvm.Cond.fieldLink "VerseCommittee$Laws" (23 : Nat) "VerseCommittee$Laws" "lastDays" "[I") ∈ BIG := tb_1 110 rfl rfl
set_option maxRecDepth 100000 in
theorem w_34d9f0fc : (Jvm.Cond.fieldLink "VerseCommittee$Laws" (26 : Nat) "VerseCommittee$Laws" "clauses" "[I") ∈ BIG := tb_1 111 rfl rfl
set_option maxRecDepth 100000 in
theorem w_97e31d16 : (Jvm.Cond.fieldLink "VerseCommittee$Laws" (29 : Nat) "VerseCommittee$Laws" "kinds" "[I") ∈ BIG := tb_1 112 rfl rfl
set_option maxRecDepth 100000 in
theorem w_6fa20ebf : (Jvm.Cond.fieldLink "VerseCommittee$Laws" (32 : Nat) "VerseCommittee$Laws" "subjects" "[I") ∈ BIG := tb_1 113 rfl rfl
set_option maxRecDepth 100000 in
theorem w_12ca7cad : (Jvm.Cond.fieldLink "VerseCommittee$Laws" (35 : Nat) "VerseCommittee$Laws" "forms" "[I") ∈ BIG := tb_1 114 rfl rfl
set_option maxRecDepth 100000 in
theorem w_be759ffd : (Jvm.Cond.fieldLink "VerseCommittee$Laws" (38 : Nat) "VerseCommittee$Laws" "values" "[I") ∈ BIG := tb_1 115 rfl rfl
set_option maxRecDepth 100000 in
theorem w_fb971f2f : (Jvm.Cond.fieldLink "VerseCommittee$Laws" (41 : Nat) "VerseCommittee$Laws" "starts" "[I") ∈ BIG := tb_1 116 rfl rfl
set_option maxRecDepth 100000 in
theorem w_d790668f : (Jvm.Cond.fieldLink "VerseCommittee$Laws" (44 : Nat) "VerseCommittee$Laws" "size" "I") ∈ BIG := tb_1 117 rfl rfl
set_option maxRecDepth 100000 in
theorem w_a25e071e : (Jvm.Cond.methodLink "VerseCommittee" (46 : Nat) ({ cls := "VerseCommittee$Shelf", name := "<init>", desc := "()V" } : Jvm.MethodName)) ∈ BIG := tb_1 143 rfl rfl
set_option maxRecDepth 100000 in
theorem w_5c3775e9 : (Jvm.Cond.instanceMethod ({ cls := "VerseCommittee$Shelf", name := "<init>", desc := "()V" } : Jvm.MethodName)) ∈ BIG := tb_1 144 rfl rfl
set_option maxRecDepth 100000 in
theorem w_5bbfc01b : (Jvm.Cond.code ({ cls := "VerseCommittee$Shelf", name := "<init>", desc := "()V" } : Jvm.MethodName) prog_10_method_1_code (2 : Nat) (Option.none : Option Jvm.ClassFile.FieldType)) ∈ BIG := tb_1 145 rfl rfl
set_option maxRecDepth 100000 in
theorem w_32b2fac3 : (Jvm.Cond.methodLink "VerseCommittee$Shelf" (3 : Nat) ({ cls := "java/lang/Object", name := "<init>", desc := "()V" } : Jvm.MethodName)) ∈ BIG := tb_1 146 rfl rfl
set_option maxRecDepth 100000 in
theorem w_afa4c6de : (Jvm.Cond.fieldLink "VerseCommittee$Shelf" (13 : Nat) "VerseCommittee$Shelf" "rows" "[LVerseCommittee$Rendering;") ∈ BIG := tb_1 149 rfl rfl
set_option maxRecDepth 100000 in
theorem w_9c6a6298 : (Jvm.Cond.fieldLink "VerseCommittee$Shelf" (17 : Nat) "VerseCommittee$Shelf" "fixedOf" "[I") ∈ BIG := tb_1 150 rfl rfl
set_option maxRecDepth 100000 in
theorem w_3a8d2a7b : (Jvm.Cond.fieldLink "VerseCommittee$Shelf" (21 : Nat) "VerseCommittee$Shelf" "turnVerse" "[I") ∈ BIG := tb_1 151 rfl rfl
set_option maxRecDepth 100000 in
theorem w_be58cb4c : (Jvm.Cond.fieldLink "VerseCommittee$Shelf" (24 : Nat) "VerseCommittee$Shelf" "turnDay" "[I") ∈ BIG := tb_1 152 rfl rfl
set_option maxRecDepth 100000 in
theorem w_ed8fc5d0 : (Jvm.Cond.fieldLink "VerseCommittee$Shelf" (27 : Nat) "VerseCommittee$Shelf" "turnRendering" "[I") ∈ BIG := tb_1 153 rfl rfl
set_option maxRecDepth 100000 in
theorem w_47b909ac : (Jvm.Cond.fieldLink "VerseCommittee$Shelf" (30 : Nat) "VerseCommittee$Shelf" "size" "I") ∈ BIG := tb_1 154 rfl rfl
set_option maxRecDepth 100000 in
theorem w_ceb89b54 : (Jvm.Cond.fieldLink "VerseCommittee$Shelf" (46 : Nat) "VerseCommittee$Shelf" "turns" "I") ∈ BIG := tb_1 155 rfl rfl
set_option maxRecDepth 100000 in
theorem w_c32a6e05 : (Jvm.Cond.methodLink "VerseCommittee" (53 : Nat) ({ cls := "VerseCommittee$Parser", name := "<init>", desc := "(LVerseCommittee$Laws;)V" } : Jvm.MethodName)) ∈ BIG := tb_1 173 rfl rfl
set_option maxRecDepth 100000 in
theorem w_dd11f97f : (Jvm.Cond.instanceMethod ({ cls := "VerseCommittee$Parser", name := "<init>", desc := "(LVerseCommittee$Laws;)V" } : Jvm.MethodName)) ∈ BIG := tb_1 174 rfl rfl
set_option maxRecDepth 100000 in
theorem w_8bddb3bb : (Jvm.Cond.code ({ cls := "VerseCommittee$Parser", name := "<init>", desc := "(LVerseCommittee$Laws;)V" } : Jvm.MethodName) prog_5_method_1_code (2 : Nat) (Option.none : Option Jvm.ClassFile.FieldType)) ∈ BIG := tb_1 175 rfl rfl
set_option maxRecDepth 100000 in
theorem w_a79ac0d6 : (Jvm.Cond.methodLink "VerseCommittee$Parser" (3 : Nat) ({ cls := "java/lang/Object", name := "<init>", desc := "()V" } : Jvm.MethodName)) ∈ BIG := tb_1 176 rfl rfl
set_option maxRecDepth 100000 in
theorem w_bdb836f1 : (Jvm.Cond.fieldLink "VerseCommittee$Parser" (18 : Nat) "VerseCommittee$Parser" "laws" "LVerseCommittee$Laws;") ∈ BIG := tb_1 179 rfl rfl
set_option maxRecDepth 100000 in
theorem w_9f7f29b8 : (Jvm.Cond.fieldLink "VerseCommittee$Parser" (13 : Nat) "VerseCommittee$Parser" "text" "[I") ∈ BIG := tb_1 180 rfl rfl
set_option maxRecDepth 100000 in
theorem w_3e7ff7dc : (Jvm.Cond.fieldLink "VerseCommittee$Parser" (26 : Nat) "VerseCommittee$Parser" "size" "I") ∈ BIG := tb_1 181 rfl rfl
set_option maxRecDepth 100000 in
theorem w_ae6f3103 : (Jvm.Cond.fieldLink "VerseCommittee$Parser" (29 : Nat) "VerseCommittee$Parser" "at" "I") ∈ BIG := tb_1 182 rfl rfl
set_option maxRecDepth 100000 in
theorem w_e9068c49 : (Jvm.Cond.fieldLink "VerseCommittee$Parser" (32 : Nat) "VerseCommittee$Parser" "fault" "I") ∈ BIG := tb_1 183 rfl rfl
set_option maxRecDepth 100000 in
theorem w_a29b48fc : (Jvm.Cond.fieldLink "VerseCommittee$Parser" (44 : Nat) "VerseCommittee$Parser" "faultPlace" "I") ∈ BIG := tb_1 184 rfl rfl
set_option maxRecDepth 100000 in
theorem w_67bb4cdb : (Jvm.Cond.fieldLink "VerseCommittee$Parser" (22 : Nat) "VerseCommittee$Parser" "clausesRead" "I") ∈ BIG := tb_1 185 rfl rfl
set_option maxRecDepth 100000 in
theorem w_14ab5024 : (Jvm.Cond.methodLink "VerseCommittee" (62 : Nat) ({ cls := "VerseCommittee$Reckoner", name := "<init>", desc := "(LVerseCommittee$Laws;LVerseCommittee$Verses;LVerseCommittee$People;)V" } : Jvm.MethodName)) ∈ BIG := tb_1 203 rfl rfl
set_option maxRecDepth 100000 in
theorem w_cb1b6006 : (Jvm.Cond.instanceMethod ({ cls := "VerseCommittee$Reckoner", name := "<init>", desc := "(LVerseCommittee$Laws;LVerseCommittee$Verses;LVerseCommittee$People;)V" } : Jvm.MethodName)) ∈ BIG := tb_1 204 rfl rfl
set_option maxRecDepth 100000 in
theorem w_0e0745a2 : (Jvm.Cond.code ({ cls := "VerseCommittee$Reckoner", name := "<init>", desc := "(LVerseCommittee$Laws;LVerseCommittee$Verses;LVerseCommittee$People;)V" } : Jvm.MethodName) prog_8_method_1_code (4 : Nat) (Option.none : Option Jvm.ClassFile.FieldType)) ∈ BIG := tb_1 205 rfl rfl
set_option maxRecDepth 100000 in
theorem w_b885d245 : (Jvm.Cond.methodLink "VerseCommittee$Reckoner" (3 : Nat) ({ cls := "java/lang/Object", name := "<init>", desc := "()V" } : Jvm.MethodName)) ∈ BIG := tb_1 206 rfl rfl
set_option maxRecDepth 100000 in
theorem w_2f6499f1 : (Jvm.Cond.fieldLink "VerseCommittee$Reckoner" (18 : Nat) "VerseCommittee$Reckoner" "laws" "LVerseCommittee$Laws;") ∈ BIG := tb_1 208 rfl rfl
set_option maxRecDepth 100000 in
theorem w_ee1488ed : (Jvm.Cond.fieldLink "VerseCommittee$Reckoner" (22 : Nat) "VerseCommittee$Reckoner" "verses" "LVerseCommittee$Verses;") ∈ BIG := tb_1 209 rfl rfl
set_option maxRecDepth 100000 in
theorem w_09909e3b : (Jvm.Cond.fieldLink "VerseCommittee$Reckoner" (26 : Nat) "VerseCommittee$Reckoner" "people" "LVerseCommittee$People;") ∈ BIG := tb_1 210 rfl rfl
set_option maxRecDepth 100000 in
theorem w_f011e0c5 : (Jvm.Cond.fieldLink "VerseCommittee$Reckoner" (30 : Nat) "VerseCommittee$Reckoner" "verse" "I") ∈ BIG := tb_1 211 rfl rfl
set_option maxRecDepth 100000 in
theorem w_df3094b6 : (Jvm.Cond.fieldLink "VerseCommittee$Reckoner" (34 : Nat) "VerseCommittee$Reckoner" "day" "I") ∈ BIG := tb_1 212 rfl rfl
set_option maxRecDepth 100000 in
theorem w_b3320d15 : (Jvm.Cond.fieldLink "VerseCommittee$Reckoner" (57 : Nat) "VerseCommittee$Reckoner" "company" "I") ∈ BIG := tb_1 213 rfl rfl
set_option maxRecDepth 100000 in
theorem w_745e89e6 : (Jvm.Cond.fieldLink "VerseCommittee$Reckoner" (60 : Nat) "VerseCommittee$Reckoner" "force" "I") ∈ BIG := tb_1 214 rfl rfl
set_option maxRecDepth 100000 in
theorem w_41861822 : (Jvm.Cond.fieldLink "VerseCommittee$Reckoner" (76 : Nat) "VerseCommittee$Reckoner" "copy" "I") ∈ BIG := tb_1 215 rfl rfl
set_option maxRecDepth 100000 in
theorem w_aedb3b96 : (Jvm.Cond.fieldLink "VerseCommittee$Reckoner" (79 : Nat) "VerseCommittee$Reckoner" "tokens" "I") ∈ BIG := tb_1 216 rfl rfl
set_option maxRecDepth 100000 in
theorem w_d335b73a : (Jvm.Cond.fieldLink "VerseCommittee$Reckoner" (43 : Nat) "VerseCommittee$Reckoner" "book" "I") ∈ BIG := tb_1 217 rfl rfl
set_option maxRecDepth 100000 in
theorem w_fc4dd773 : (Jvm.Cond.fieldLink "VerseCommittee$Reckoner" (49 : Nat) "VerseCommittee$Reckoner" "measure" "I") ∈ BIG := tb_1 218 rfl rfl
set_option maxRecDepth 100000 in
theorem w_2cfa9111 : (Jvm.Cond.fieldLink "VerseCommittee$Reckoner" (13 : Nat) "VerseCommittee$Reckoner" "text" "[I") ∈ BIG := tb_1 219 rfl rfl
set_option maxRecDepth 100000 in
theorem w_cfb4ad41 : (Jvm.Cond.fieldLink "VerseCommittee$Reckoner" (99 : Nat) "VerseCommittee$Reckoner" "at" "I") ∈ BIG := tb_1 220 rfl rfl
set_option maxRecDepth 100000 in
theorem w_629655df : (Jvm.Cond.fieldLink "VerseCommittee$Reckoner" (102 : Nat) "VerseCommittee$Reckoner" "refused" "Z") ∈ BIG := tb_1 221 rfl rfl
set_option maxRecDepth 100000 in
theorem w_ac3d0eba : (Jvm.Cond.methodLink "VerseCommittee" (71 : Nat) ({ cls := "VerseCommittee$Findings", name := "<init>", desc := "(LVerseCommittee$Laws;LVerseCommittee$Verses;LVerseCommittee$Reckoner;LVerseCommittee$Shelf;)V" } : Jvm.MethodName)) ∈ BIG := tb_2 13 rfl rfl
set_option maxRecDepth 100000 in
theorem w_93810df2 : (Jvm.Cond.instanceMethod ({ cls := "VerseCommittee$Findings", name := "<init>", desc := "(LVerseCommittee$Laws;LVerseCommittee$Verses;LVerseCommittee$Reckoner;LVerseCommittee$Shelf;)V" } : Jvm.MethodName)) ∈ BIG := tb_2 14 rfl rfl
set_option maxRecDepth 100000 in
theorem w_83c35d12 : (Jvm.Cond.code ({ cls := "VerseCommittee$Findings", name := "<init>", desc := "(LVerseCommittee$Laws;LVerseCommittee$Verses;LVerseCommittee$Reckoner;LVerseCommittee$Shelf;)V" } : Jvm.MethodName) prog_3_method_1_code (5 : Nat) (Option.none : Option Jvm.ClassFile.FieldType)) ∈ BIG := tb_2 15 rfl rfl
set_option maxRecDepth 100000 in
theorem w_c8c8bacc : (Jvm.Cond.methodLink "VerseCommittee$Findings" (7 : Nat) ({ cls := "java/lang/Object", name := "<init>", desc := "()V" } : Jvm.MethodName)) ∈ BIG := tb_2 16 rfl rfl
set_option maxRecDepth 100000 in
theorem w_5c9255b3 : (Jvm.Cond.fieldLink "VerseCommittee$Findings" (33 : Nat) "VerseCommittee$Findings" "laws" "LVerseCommittee$Laws;") ∈ BIG := tb_2 17 rfl rfl
set_option maxRecDepth 100000 in
theorem w_2d6bc367 : (Jvm.Cond.fieldLink "VerseCommittee$Findings" (37 : Nat) "VerseCommittee$Findings" "verses" "LVerseCommittee$Verses;") ∈ BIG := tb_2 18 rfl rfl
set_option maxRecDepth 100000 in
theorem w_ceade7a3 : (Jvm.Cond.fieldLink "VerseCommittee$Findings" (41 : Nat) "VerseCommittee$Findings" "reckoner" "LVerseCommittee$Reckoner;") ∈ BIG := tb_2 19 rfl rfl
set_option maxRecDepth 100000 in
theorem w_b1d7e7a5 : (Jvm.Cond.fieldLink "VerseCommittee$Findings" (45 : Nat) "VerseCommittee$Findings" "shelf" "LVerseCommittee$Shelf;") ∈ BIG := tb_2 20 rfl rfl
set_option maxRecDepth 100000 in
theorem w_de3a11cc : (Jvm.Cond.fieldLink "VerseCommittee$Findings" (13 : Nat) "VerseCommittee$Findings" "found" "[I") ∈ BIG := tb_2 21 rfl rfl
set_option maxRecDepth 100000 in
theorem w_2b127ce9 : (Jvm.Cond.fieldLink "VerseCommittee$Findings" (17 : Nat) "VerseCommittee$Findings" "held" "[I") ∈ BIG := tb_2 22 rfl rfl
set_option maxRecDepth 100000 in
theorem w_8eb383b1 : (Jvm.Cond.fieldLink "VerseCommittee$Findings" (20 : Nat) "VerseCommittee$Findings" "placeVerse" "[I") ∈ BIG := tb_2 23 rfl rfl
set_option maxRecDepth 100000 in
theorem w_dcd5d65b : (Jvm.Cond.fieldLink "VerseCommittee$Findings" (23 : Nat) "VerseCommittee$Findings" "placeToken" "[I") ∈ BIG := tb_2 24 rfl rfl
set_option maxRecDepth 100000 in
theorem w_7f0bfc95 : (Jvm.Cond.fieldLink "VerseCommittee$Findings" (26 : Nat) "VerseCommittee$Findings" "placeSigns" "[I") ∈ BIG := tb_2 25 rfl rfl
set_option maxRecDepth 100000 in
theorem w_30f9eaff : (Jvm.Cond.fieldLink "VerseCommittee$Findings" (29 : Nat) "VerseCommittee$Findings" "alike" "[J") ∈ BIG := tb_2 26 rfl rfl
set_option maxRecDepth 100000 in
theorem w_1d316e2d : (Jvm.Cond.fieldLink "VerseCommittee$Findings" (67 : Nat) "VerseCommittee$Findings" "heldSize" "I") ∈ BIG := tb_2 27 rfl rfl
set_option maxRecDepth 100000 in
theorem w_431e46e8 : (Jvm.Cond.fieldLink "VerseCommittee$Findings" (133 : Nat) "VerseCommittee$Findings" "places" "I") ∈ BIG := tb_2 28 rfl rfl
set_option maxRecDepth 100000 in
theorem w_8af64ec9 : (Jvm.Cond.fieldLink "VerseCommittee$Findings" (49 : Nat) "VerseCommittee$Findings" "seen" "I") ∈ BIG := tb_2 29 rfl rfl
set_option maxRecDepth 100000 in
theorem w_fa939814 : (Jvm.Cond.methodLink "VerseCommittee" (80 : Nat) ({ cls := "VerseCommittee$Choices", name := "<init>", desc := "(LVerseCommittee$Laws;LVerseCommittee$Verses;LVerseCommittee$Reckoner;LVerseCommittee$Shelf;)V" } : Jvm.MethodName)) ∈ BIG := tb_2 60 rfl rfl
set_option maxRecDepth 100000 in
theorem w_311f6dbd : (Jvm.Cond.instanceMethod ({ cls := "VerseCommittee$Choices", name := "<init>", desc := "(LVerseCommittee$Laws;LVerseCommittee$Verses;LVerseCommittee$Reckoner;LVerseCommittee$Shelf;)V" } : Jvm.MethodName)) ∈ BIG := tb_2 61 rfl rfl
set_option maxRecDepth 100000 in
theorem w_fe8064a0 : (Jvm.Cond.code ({ cls := "VerseCommittee$Choices", name := "<init>", desc := "(LVerseCommittee$Laws;LVerseCommittee$Verses;LVerseCommittee$Reckoner;LVerseCommittee$Shelf;)V" } : Jvm.MethodName) prog_2_method_1_code (5 : Nat) (Option.none : Option Jvm.ClassFile.FieldType)) ∈ BIG := tb_2 62 rfl rfl
set_option maxRecDepth 100000 in
theorem w_d3d69afb : (Jvm.Cond.methodLink "VerseCommittee$Choices" (3 : Nat) ({ cls := "java/lang/Object", name := "<init>", desc := "()V" } : Jvm.MethodName)) ∈ BIG := tb_2 63 rfl rfl
set_option maxRecDepth 100000 in
theorem w_d30a00c5 : (Jvm.Cond.fieldLink "VerseCommittee$Choices" (35 : Nat) "VerseCommittee$Choices" "laws" "LVerseCommittee$Laws;") ∈ BIG := tb_2 64 rfl rfl
set_option maxRecDepth 100000 in
theorem w_9cff2cfb : (Jvm.Cond.fieldLink "VerseCommittee$Choices" (39 : Nat) "VerseCommittee$Choices" "verses" "LVerseCommittee$Verses;") ∈ BIG := tb_2 65 rfl rfl
set_option maxRecDepth 100000 in
theorem w_bb654b39 : (Jvm.Cond.fieldLink "VerseCommittee$Choices" (43 : Nat) "VerseCommittee$Choices" "reckoner" "LVerseCommittee$Reckoner;") ∈ BIG := tb_2 66 rfl rfl
set_option maxRecDepth 100000 in
theorem w_02898297 : (Jvm.Cond.fieldLink "VerseCommittee$Choices" (47 : Nat) "VerseCommittee$Choices" "shelf" "LVerseCommittee$Shelf;") ∈ BIG := tb_2 67 rfl rfl
set_option maxRecDepth 100000 in
theorem w_b8ec0b93 : (Jvm.Cond.fieldLink "VerseCommittee$Choices" (11 : Nat) "VerseCommittee$Choices" "signs" "[I") ∈ BIG := tb_2 68 rfl rfl
set_option maxRecDepth 100000 in
theorem w_8ca1e67d : (Jvm.Cond.fieldLink "VerseCommittee$Choices" (15 : Nat) "VerseCommittee$Choices" "sizes" "[I") ∈ BIG := tb_2 69 rfl rfl
set_option maxRecDepth 100000 in
theorem w_6fe33dc9 : (Jvm.Cond.fieldLink "VerseCommittee$Choices" (18 : Nat) "VerseCommittee$Choices" "options" "[I") ∈ BIG := tb_2 70 rfl rfl
set_option maxRecDepth 100000 in
theorem w_b3cb3493 : (Jvm.Cond.fieldLink "VerseCommittee$Choices" (21 : Nat) "VerseCommittee$Choices" "parted" "[J") ∈ BIG := tb_2 71 rfl rfl
set_option maxRecDepth 100000 in
theorem w_4dd9dd23 : (Jvm.Cond.fieldLink "VerseCommittee$Choices" (25 : Nat) "VerseCommittee$Choices" "prices" "[I") ∈ BIG := tb_2 72 rfl rfl
set_option maxRecDepth 100000 in
theorem w_c1be8d7e : (Jvm.Cond.fieldLink "VerseCommittee$Choices" (28 : Nat) "VerseCommittee$Choices" "barred" "[Z") ∈ BIG := tb_2 73 rfl rfl
set_option maxRecDepth 100000 in
theorem w_8ae108d9 : (Jvm.Cond.fieldLink "VerseCommittee$Choices" (32 : Nat) "VerseCommittee$Choices" "row" "[I") ∈ BIG := tb_2 74 rfl rfl
set_option maxRecDepth 100000 in
theorem w_640020a8 : (Jvm.Cond.fieldLink "VerseCommittee$Choices" (51 : Nat) "VerseCommittee$Choices" "size" "I") ∈ BIG := tb_2 75 rfl rfl
set_option maxRecDepth 100000 in
theorem w_a4a6604d : (Jvm.Cond.fieldLink "VerseCommittee$Choices" (71 : Nat) "VerseCommittee$Choices" "bestPrice" "I") ∈ BIG := tb_2 76 rfl rfl
set_option maxRecDepth 100000 in
theorem w_75c0fe65 : (Jvm.Cond.fieldLink "VerseCommittee$Choices" (74 : Nat) "VerseCommittee$Choices" "bestChoice" "I") ∈ BIG := tb_2 77 rfl rfl
set_option maxRecDepth 100000 in
theorem w_3098d345 : (Jvm.Cond.methodLink "VerseCommittee" (87 : Nat) ({ cls := "VerseCommittee$Planner", name := "<init>", desc := "(LVerseCommittee$Verses;LVerseCommittee$People;LVerseCommittee$Shelf;)V" } : Jvm.MethodName)) ∈ BIG := tb_2 110 rfl rfl
set_option maxRecDepth 100000 in
theorem w_ef4ee9af : (Jvm.Cond.instanceMethod ({ cls := "VerseCommittee$Planner", name := "<init>", desc := "(LVerseCommittee$Verses;LVerseCommittee$People;LVerseCommittee$Shelf;)V" } : Jvm.MethodName)) ∈ BIG := tb_2 111 rfl rfl
set_option maxRecDepth 100000 in
theorem w_13deefe5 : (Jvm.Cond.code ({ cls := "VerseCommittee$Planner", name := "<init>", desc := "(LVerseCommittee$Verses;LVerseCommittee$People;LVerseCommittee$Shelf;)V" } : Jvm.MethodName) prog_7_method_1_code (4 : Nat) (Option.none : Option Jvm.ClassFile.FieldType)) ∈ BIG := tb_2 112 rfl rfl
set_option maxRecDepth 100000 in
theorem w_01a6f0bb : (Jvm.Cond.methodLink "VerseCommittee$Planner" (3 : Nat) ({ cls := "java/lang/Object", name := "<init>", desc := "()V" } : Jvm.MethodName)) ∈ BIG := tb_2 113 rfl rfl
set_option maxRecDepth 100000 in
theorem w_4e23eec2 : (Jvm.Cond.fieldLink "VerseCommittee$Planner" (29 : Nat) "VerseCommittee$Planner" "verses" "LVerseCommittee$Verses;") ∈ BIG := tb_2 114 rfl rfl
set_option maxRecDepth 100000 in
theorem w_2a2dd35a : (Jvm.Cond.fieldLink "VerseCommittee$Planner" (33 : Nat) "VerseCommittee$Planner" "people" "LVerseCommittee$People;") ∈ BIG := tb_2 115 rfl rfl
set_option maxRecDepth 100000 in
theorem w_0aa8a6bb : (Jvm.Cond.fieldLink "VerseCommittee$Planner" (37 : Nat) "VerseCommittee$Planner" "shelf" "LVerseCommittee$Shelf;") ∈ BIG := tb_2 116 rfl rfl
set_option maxRecDepth 100000 in
theorem w_26129d30 : (Jvm.Cond.fieldLink "VerseCommittee$Planner" (11 : Nat) "VerseCommittee$Planner" "open" "[I") ∈ BIG := tb_2 117 rfl rfl
set_option maxRecDepth 100000 in
theorem w_969b545e : (Jvm.Cond.fieldLink "VerseCommittee$Planner" (15 : Nat) "VerseCommittee$Planner" "books" "[I") ∈ BIG := tb_2 118 rfl rfl
set_option maxRecDepth 100000 in
theorem w_e59d070c : (Jvm.Cond.fieldLink "VerseCommittee$Planner" (20 : Nat) "VerseCommittee$Planner" "loads" "[I") ∈ BIG := tb_2 119 rfl rfl
set_option maxRecDepth 100000 in
theorem w_02977e6a : (Jvm.Cond.fieldLink "VerseCommittee$Planner" (23 : Nat) "VerseCommittee$Planner" "row" "[I") ∈ BIG := tb_2 120 rfl rfl
set_option maxRecDepth 100000 in
theorem w_223a3c49 : (Jvm.Cond.fieldLink "VerseCommittee$Planner" (26 : Nat) "VerseCommittee$Planner" "best" "[I") ∈ BIG := tb_2 121 rfl rfl
set_option maxRecDepth 100000 in
theorem w_350b1354 : (Jvm.Cond.fieldLink "VerseCommittee$Planner" (57 : Nat) "VerseCommittee$Planner" "size" "I") ∈ BIG := tb_2 122 rfl rfl
set_option maxRecDepth 100000 in
theorem w_0f3b40b5 : (Jvm.Cond.fieldLink "VerseCommittee$Planner" (45 : Nat) "VerseCommittee$Planner" "bestDays" "I") ∈ BIG := tb_2 123 rfl rfl
set_option maxRecDepth 100000 in
theorem w_18ce4b9a : (Jvm.Cond.fieldLink "VerseCommittee" (9 : Nat) "VerseCommittee" "tape" "[I") ∈ BIG := tb_2 145 rfl rfl
set_option maxRecDepth 100000 in
theorem w_b34a3acb : (Jvm.Cond.fieldLink "VerseCommittee" (13 : Nat) "VerseCommittee" "scratch" "[I") ∈ BIG := tb_2 146 rfl rfl
set_option maxRecDepth 100000 in
theorem w_b4c13842 : (Jvm.Cond.fieldLink "VerseCommittee" (19 : Nat) "VerseCommittee" "words" "LVerseCommittee$Words;") ∈ BIG := tb_2 147 rfl rfl
set_option maxRecDepth 100000 in
theorem w_49df9d0b : (Jvm.Cond.fieldLink "VerseCommittee" (26 : Nat) "VerseCommittee" "verses" "LVerseCommittee$Verses;") ∈ BIG := tb_2 148 rfl rfl
set_option maxRecDepth 100000 in
theorem w_2632cf99 : (Jvm.Cond.fieldLink "VerseCommittee" (33 : Nat) "VerseCommittee" "people" "LVerseCommittee$People;") ∈ BIG := tb_2 149 rfl rfl
set_option maxRecDepth 100000 in
theorem w_2946730c : (Jvm.Cond.fieldLink "VerseCommittee" (40 : Nat) "VerseCommittee" "laws" "LVerseCommittee$Laws;") ∈ BIG := tb_2 150 rfl rfl
set_option maxRecDepth 100000 in
theorem w_817dcde5 : (Jvm.Cond.fieldLink "VerseCommittee" (47 : Nat) "VerseCommittee" "shelf" "LVerseCommittee$Shelf;") ∈ BIG := tb_2 151 rfl rfl
set_option maxRecDepth 100000 in
theorem w_cb4fff5f : (Jvm.Cond.fieldLink "VerseCommittee" (56 : Nat) "VerseCommittee" "parser" "LVerseCommittee$Parser;") ∈ BIG := tb_2 152 rfl rfl
set_option maxRecDepth 100000 in
theorem w_a895f913 : (Jvm.Cond.fieldLink "VerseCommittee" (65 : Nat) "VerseCommittee" "reckoner" "LVerseCommittee$Reckoner;") ∈ BIG := tb_2 153 rfl rfl
set_option maxRecDepth 100000 in
theorem w_2d4811da : (Jvm.Cond.fieldLink "VerseCommittee" (74 : Nat) "VerseCommittee" "findings" "LVerseCommittee$Findings;") ∈ BIG := tb_2 154 rfl rfl
set_option maxRecDepth 100000 in
theorem w_1731f48c : (Jvm.Cond.fieldLink "VerseCommittee" (81 : Nat) "VerseCommittee" "choices" "LVerseCommittee$Choices;") ∈ BIG := tb_2 155 rfl rfl
set_option maxRecDepth 100000 in
theorem w_da60932c : (Jvm.Cond.fieldLink "VerseCommittee" (90 : Nat) "VerseCommittee" "planner" "LVerseCommittee$Planner;") ∈ BIG := tb_2 156 rfl rfl
set_option maxRecDepth 100000 in
theorem w_b858f60b : (Jvm.Cond.fieldLink "VerseCommittee" (102 : Nat) "VerseCommittee" "taped" "I") ∈ BIG := tb_2 157 rfl rfl
set_option maxRecDepth 100000 in
theorem w_9b50f69c : (Jvm.Cond.fieldLink "VerseCommittee" (98 : Nat) "VerseCommittee" "today" "I") ∈ BIG := tb_2 158 rfl rfl
set_option maxRecDepth 100000 in
theorem w_7c1ee466 : (Jvm.Cond.methodLink "VerseCommitteeLaw" (13 : Nat) ({ cls := "VerseCommittee", name := "now", desc := "(I)Z" } : Jvm.MethodName)) ∈ BIG := tb_2 188 rfl rfl
set_option maxRecDepth 100000 in
theorem w_fed1d1c9 : (Jvm.Cond.instanceMethod ({ cls := "VerseCommittee", name := "now", desc := "(I)Z" } : Jvm.MethodName)) ∈ BIG := tb_2 189 rfl rfl
set_option maxRecDepth 100000 in
theorem w_27f4aed0 : (Jvm.Cond.selects "VerseCommittee" ({ cls := "VerseCommittee", name := "now", desc := "(I)Z" } : Jvm.MethodName) ({ cls := "VerseCommittee", name := "now", desc := "(I)Z" } : Jvm.MethodName)) ∈ BIG := tb_2 190 rfl rfl
set_option maxRecDepth 100000 in
theorem w_d8755df9 : (Jvm.Cond.code ({ cls := "VerseCommittee", name := "now", desc := "(I)Z" } : Jvm.MethodName) prog_1_method_2_code (2 : Nat) (Option.some Jvm.ClassFile.FieldType.boolean)) ∈ BIG := tb_2 191 rfl rfl
set_option maxRecDepth 100000 in
theorem w_3be016c1 : (Jvm.Cond.methodLink "VerseCommittee" (94 : Nat) ({ cls := "VerseCommittee", name := "isDay", desc := "(I)Z" } : Jvm.MethodName)) ∈ BIG := tb_2 192 rfl rfl
set_option maxRecDepth 100000 in
theorem w_097be092 : (Jvm.Cond.static ({ cls := "VerseCommittee", name := "isDay", desc := "(I)Z" } : Jvm.MethodName)) ∈ BIG := tb_2 193 rfl rfl
set_option maxRecDepth 100000 in
theorem w_38534f2d : (Jvm.Cond.code ({ cls := "VerseCommittee", name := "isDay", desc := "(I)Z" } : Jvm.MethodName) prog_1_method_42_code (1 : Nat) (Option.some Jvm.ClassFile.FieldType.boolean)) ∈ BIG := tb_2 194 rfl rfl
set_option maxRecDepth 100000 in
theorem w_19f22ba8 : (Jvm.Cond.methodLink "VerseCommitteeLaw" (18 : Nat) ({ cls := "VerseCommittee", name := "feed", desc := "(IIIII)I" } : Jvm.MethodName)) ∈ BIG := tb_2 195 rfl rfl
set_option maxRecDepth 100000 in
theorem w_6bda4739 : (Jvm.Cond.instanceMethod ({ cls := "VerseCommittee", name := "feed", desc := "(IIIII)I" } : Jvm.MethodName)) ∈ BIG := tb_2 196 rfl rfl
set_option maxRecDepth 100000 in
theorem w_dfa839cb : (Jvm.Cond.selects "VerseCommittee" ({ cls := "VerseCommittee", name := "feed", desc := "(IIIII)I" } : Jvm.MethodName) ({ cls := "VerseCommittee", name := "feed", desc := "(IIIII)I" } : Jvm.MethodName)) ∈ BIG := tb_2 197 rfl rfl
set_option maxRecDepth 100000 in
theorem w_2e86ea73 : (Jvm.Cond.code ({ cls := "VerseCommittee", name := "feed", desc := "(IIIII)I" } : Jvm.MethodName) prog_1_method_3_code (6 : Nat) (Option.some Jvm.ClassFile.FieldType.int)) ∈ BIG := tb_2 198 rfl rfl
set_option maxRecDepth 100000 in
theorem w_82c8bb83 : (Jvm.Cond.methodLink "VerseCommittee" (105 : Nat) ({ cls := "VerseCommittee", name := "putFour", desc := "(I)V" } : Jvm.MethodName)) ∈ BIG := tb_2 199 rfl rfl
set_option maxRecDepth 100000 in
theorem w_e301bcc7 : (Jvm.Cond.instanceMethod ({ cls := "VerseCommittee", name := "putFour", desc := "(I)V" } : Jvm.MethodName)) ∈ BIG := tb_2 201 rfl rfl
set_option maxRecDepth 100000 in
theorem w_50249438 : (Jvm.Cond.code ({ cls := "VerseCommittee", name := "putFour", desc := "(I)V" } : Jvm.MethodName) prog_1_method_41_code (3 : Nat) (Option.none : Option Jvm.ClassFile.FieldType)) ∈ BIG := tb_2 202 rfl rfl
set_option maxRecDepth 100000 in
theorem w_8726c53c : (Jvm.Cond.methodLink "VerseCommitteeLaw" (23 : Nat) ({ cls := "VerseCommittee", name := "verse", desc := "(II)I" } : Jvm.MethodName)) ∈ BIG := tb_2 203 rfl rfl
set_option maxRecDepth 100000 in
theorem w_7f59d1e1 : (Jvm.Cond.instanceMethod ({ cls := "VerseCommittee", name := "verse", desc := "(II)I" } : Jvm.MethodName)) ∈ BIG := tb_2 204 rfl rfl
set_option maxRecDepth 100000 in
theorem w_ed26212e : (Jvm.Cond.selects "VerseCommittee" ({ cls := "VerseCommittee", name := "verse", desc := "(II)I" } : Jvm.MethodName) ({ cls := "VerseCommittee", name := "verse", desc := "(II)I" } : Jvm.MethodName)) ∈ BIG := tb_2 205 rfl rfl
set_option maxRecDepth 100000 in
theorem w_48db7707 : (Jvm.Cond.code ({ cls := "VerseCommittee", name := "verse", desc := "(II)I" } : Jvm.MethodName) prog_1_method_4_code (3 : Nat) (Option.some Jvm.ClassFile.FieldType.int)) ∈ BIG := tb_2 206 rfl rfl
set_option maxRecDepth 100000 in
theorem w_95976dab : (Jvm.Cond.methodLink "VerseCommittee" (109 : Nat) ({ cls := "VerseCommittee$Verses", name := "enter", desc := "(II)I" } : Jvm.MethodName)) ∈ BIG := tb_2 207 rfl rfl
set_option maxRecDepth 100000 in
theorem w_0909d20c : (Jvm.Cond.instanceMethod ({ cls := "VerseCommittee$Verses", name := "enter", desc := "(II)I" } : Jvm.MethodName)) ∈ BIG := tb_2 208 rfl rfl
set_option maxRecDepth 100000 in
theorem w_9efb466a : (Jvm.Cond.selects "VerseCommittee$Verses" ({ cls := "VerseCommittee$Verses", name := "enter", desc := "(II)I" } : Jvm.MethodName) ({ cls := "VerseCommittee$Verses", name := "enter", desc := "(II)I" } : Jvm.MethodName)) ∈ BIG := tb_2 209 rfl rfl
set_option maxRecDepth 100000 in
theorem w_4f33bf03 : (Jvm.Cond.code ({ cls := "VerseCommittee$Verses", name := "enter", desc := "(II)I" } : Jvm.MethodName) prog_11_method_4_code (3 : Nat) (Option.some Jvm.ClassFile.FieldType.int)) ∈ BIG := tb_2 210 rfl rfl
set_option maxRecDepth 100000 in
theorem w_08dc768e : (Jvm.Cond.methodLink "VerseCommitteeLaw" (28 : Nat) ({ cls := "VerseCommittee", name := "source", desc := "(III)Z" } : Jvm.MethodName)) ∈ BIG := tb_2 211 rfl rfl
set_option maxRecDepth 100000 in
theorem w_6aabcebe : (Jvm.Cond.instanceMethod ({ cls := "VerseCommittee", name := "source", desc := "(III)Z" } : Jvm.MethodName)) ∈ BIG := tb_2 212 rfl rfl
set_option maxRecDepth 100000 in
theorem w_1de4bfd3 : (Jvm.Cond.selects "VerseCommittee" ({ cls := "VerseCommittee", name := "source", desc := "(III)Z" } : Jvm.MethodName) ({ cls := "VerseCommittee", name := "source", desc := "(III)Z" } : Jvm.MethodName)) ∈ BIG := tb_2 213 rfl rfl
set_option maxRecDepth 100000 in
theorem w_e127f6cd : (Jvm.Cond.code ({ cls := "VerseCommittee", name := "source", desc := "(III)Z" } : Jvm.MethodName) prog_1_method_5_code (4 : Nat) (Option.some Jvm.ClassFile.FieldType.boolean)) ∈ BIG := tb_2 214 rfl rfl
set_option maxRecDepth 100000 in
theorem w_72c75e76 : (Jvm.Cond.methodLink "VerseCommittee" (113 : Nat) ({ cls := "VerseCommittee$Verses", name := "has", desc := "(I)Z" } : Jvm.MethodName)) ∈ BIG := tb_2 215 rfl rfl
set_option maxRecDepth 100000 in
theorem w_2cb7055b : (Jvm.Cond.instanceMethod ({ cls := "VerseCommittee$Verses", name := "has", desc := "(I)Z" } : Jvm.MethodName)) ∈ BIG := tb_2 216 rfl rfl
set_option maxRecDepth 100000 in
theorem w_b6d76af7 : (Jvm.Cond.selects "VerseCommittee$Verses" ({ cls := "VerseCommittee$Verses", name := "has", desc := "(I)Z" } : Jvm.MethodName) ({ cls := "VerseCommittee$Verses", name := "has", desc := "(I)Z" } : Jvm.MethodName)) ∈ BIG := tb_2 217 rfl rfl
set_option maxRecDepth 100000 in
theorem w_d0e3bbac : (Jvm.Cond.code ({ cls := "VerseCommittee$Verses", name := "has", desc := "(I)Z" } : Jvm.MethodName) prog_11_method_3_code (2 : Nat) (Option.some Jvm.ClassFile.FieldType.boolean)) ∈ BIG := tb_2 218 rfl rfl
set_option maxRecDepth 100000 in
theorem w_ef39f817 : (Jvm.Cond.methodLink "VerseCommittee" (116 : Nat) ({ cls := "VerseCommittee", name := "isCopy", desc := "(I)Z" } : Jvm.MethodName)) ∈ BIG := tb_2 219 rfl rfl
set_option maxRecDepth 100000 in
theorem w_84b1be78 : (Jvm.Cond.static ({ cls := "VerseCommittee", name := "isCopy", desc := "(I)Z" } : Jvm.MethodName)) ∈ BIG := tb_2 220 rfl rfl
set_option maxRecDepth 100000 in
theorem w_09be51aa : (Jvm.Cond.code ({ cls := "VerseCommittee", name := "isCopy", desc := "(I)Z" } : Jvm.MethodName) prog_1_method_44_code (1 : Nat) (Option.some Jvm.ClassFile.FieldType.boolean)) ∈ BIG := tb_2 221 rfl rfl
set_option maxRecDepth 100000 in
theorem w_7c7f70aa : (Jvm.Cond.methodLink "VerseCommittee" (119 : Nat) ({ cls := "VerseCommittee", name := "tapeHas", desc := "(II)Z" } : Jvm.MethodName)) ∈ BIG := tb_2 222 rfl rfl
set_option maxRecDepth 100000 in
theorem w_dc290288 : (Jvm.Cond.instanceMethod ({ cls := "VerseCommittee", name := "tapeHas", desc := "(II)Z" } : Jvm.MethodName)) ∈ BIG := tb_2 224 rfl rfl
set_option maxRecDepth 100000 in
theorem w_2030092a : (Jvm.Cond.code ({ cls := "VerseCommittee", name := "tapeHas", desc := "(II)Z" } : Jvm.MethodName) prog_1_method_48_code (3 : Nat) (Option.some Jvm.ClassFile.FieldType.boolean)) ∈ BIG := tb_2 225 rfl rfl
set_option maxRecDepth 100000 in
theorem w_0875de6e : (Jvm.Cond.methodLink "VerseCommittee" (123 : Nat) ({ cls := "VerseCommittee", name := "tapeHasTokens", desc := "(I)Z" } : Jvm.MethodName)) ∈ BIG := tb_2 226 rfl rfl
set_option maxRecDepth 100000 in
theorem w_04743ae7 : (Jvm.Cond.instanceMethod ({ cls := "VerseCommittee", name := "tapeHasTokens", desc := "(I)Z" } : Jvm.MethodName)) ∈ BIG := tb_2 228 rfl rfl
set_option maxRecDepth 100000 in
theorem w_1cbf7137 : (Jvm.Cond.code ({ cls := "VerseCommittee", name := "tapeHasTokens", desc := "(I)Z" } : Jvm.MethodName) prog_1_method_49_code (3 : Nat) (Option.some Jvm.ClassFile.FieldType.boolean)) ∈ BIG := tb_2 229 rfl rfl
set_option maxRecDepth 100000 in
theorem w_ba692955 : (Jvm.Cond.methodLink "VerseCommittee" (126 : Nat) ({ cls := "VerseCommittee$Verses", name := "putRow", desc := "(II[II)V" } : Jvm.MethodName)) ∈ BIG := tb_2 230 rfl rfl
set_option maxRecDepth 100000 in
theorem w_037d7e9c : (Jvm.Cond.instanceMethod ({ cls := "VerseCommittee$Verses", name := "putRow", desc := "(II[II)V" } : Jvm.MethodName)) ∈ BIG := tb_2 231 rfl rfl
set_option maxRecDepth 100000 in
theorem w_7c54bc4f : (Jvm.Cond.selects "VerseCommittee$Verses" ({ cls := "VerseCommittee$Verses", name := "putRow", desc := "(II[II)V" } : Jvm.MethodName) ({ cls := "VerseCommittee$Verses", name := "putRow", desc := "(II[II)V" } : Jvm.MethodName)) ∈ BIG := tb_2 232 rfl rfl
set_option maxRecDepth 100000 in
theorem w_5f093b68 : (Jvm.Cond.code ({ cls := "VerseCommittee$Verses", name := "putRow", desc := "(II[II)V" } : Jvm.MethodName) prog_11_method_7_code (7 : Nat) (Option.none : Option Jvm.ClassFile.FieldType)) ∈ BIG := tb_2 233 rfl rfl
set_option maxRecDepth 100000 in
theorem w_ba6a2b6c : (Jvm.Cond.methodLink "VerseCommittee$Verses" (33 : Nat) ({ cls := "VerseCommittee$Verses", name := "has", desc := "(I)Z" } : Jvm.MethodName)) ∈ BIG := tb_2 234 rfl rfl
set_option maxRecDepth 100000 in
theorem w_0ef5f88c : (Jvm.Cond.methodLink "VerseCommitteeLaw" (33 : Nat) ({ cls := "VerseCommittee", name := "word", desc := "(I)I" } : Jvm.MethodName)) ∈ BIG := tb_2 236 rfl rfl
set_option maxRecDepth 100000 in
theorem w_51680d9f : (Jvm.Cond.instanceMethod ({ cls := "VerseCommittee", name := "word", desc := "(I)I" } : Jvm.MethodName)) ∈ BIG := tb_2 237 rfl rfl
set_option maxRecDepth 100000 in
theorem w_853afffb : (Jvm.Cond.selects "VerseCommittee" ({ cls := "VerseCommittee", name := "word", desc := "(I)I" } : Jvm.MethodName) ({ cls := "VerseCommittee", name := "word", desc := "(I)I" } : Jvm.MethodName)) ∈ BIG := tb_2 238 rfl rfl
set_option maxRecDepth 100000 in
theorem w_5fe7c7f7 : (Jvm.Cond.code ({ cls := "VerseCommittee", name := "word", desc := "(I)I" } : Jvm.MethodName) prog_1_method_6_code (3 : Nat) (Option.some Jvm.ClassFile.FieldType.int)) ∈ BIG := tb_2 239 rfl rfl
set_option maxRecDepth 100000 in
theorem w_0f47ec1d : (Jvm.Cond.methodLink "VerseCommittee" (130 : Nat) ({ cls := "VerseCommittee", name := "tapeHasLetters", desc := "(I)Z" } : Jvm.MethodName)) ∈ BIG := tb_3 0 rfl rfl
set_option maxRecDepth 100000 in
theorem w_4b68875f : (Jvm.Cond.instanceMethod ({ cls := "VerseCommittee", name := "tapeHasLetters", desc := "(I)Z" } : Jvm.MethodName)) ∈ BIG := tb_3 2 rfl rfl
set_option maxRecDepth 100000 in
theorem w_f38ef80f : (Jvm.Cond.code ({ cls := "VerseCommittee", name := "tapeHasLetters", desc := "(I)Z" } : Jvm.MethodName) prog_1_method_50_code (3 : Nat) (Option.some Jvm.ClassFile.FieldType.boolean)) ∈ BIG := tb_3 3 rfl rfl
set_option maxRecDepth 100000 in
theorem w_7e0ebd15 : (Jvm.Cond.methodLink "VerseCommittee" (133 : Nat) ({ cls := "VerseCommittee$Words", name := "enter", desc := "([II)I" } : Jvm.MethodName)) ∈ BIG := tb_3 4 rfl rfl
set_option maxRecDepth 100000 in
theorem w_4be6e82e : (Jvm.Cond.instanceMethod ({ cls := "VerseCommittee$Words", name := "enter", desc := "([II)I" } : Jvm.MethodName)) ∈ BIG := tb_3 5 rfl rfl
set_option maxRecDepth 100000 in
theorem w_a2d98cf2 : (Jvm.Cond.selects "VerseCommittee$Words" ({ cls := "VerseCommittee$Words", name := "enter", desc := "([II)I" } : Jvm.MethodName) ({ cls := "VerseCommittee$Words", name := "enter", desc := "([II)I" } : Jvm.MethodName)) ∈ BIG := tb_3 6 rfl rfl
set_option maxRecDepth 100000 in
theorem w_089d871a : (Jvm.Cond.code ({ cls := "VerseCommittee$Words", name := "enter", desc := "([II)I" } : Jvm.MethodName) prog_12_method_4_code (3 : Nat) (Option.some Jvm.ClassFile.FieldType.int)) ∈ BIG := tb_3 7 rfl rfl
set_option maxRecDepth 100000 in
theorem w_d2ea08dd : (Jvm.Cond.methodLink "VerseCommittee$Words" (22 : Nat) ({ cls := "VerseCommittee$Words", name := "isThere", desc := "([II)Z" } : Jvm.MethodName)) ∈ BIG := tb_3 8 rfl rfl
set_option maxRecDepth 100000 in
theorem w_b3519fee : (Jvm.Cond.instanceMethod ({ cls := "VerseCommittee$Words", name := "isThere", desc := "([II)Z" } : Jvm.MethodName)) ∈ BIG := tb_3 10 rfl rfl
set_option maxRecDepth 100000 in
theorem w_df985e38 : (Jvm.Cond.code ({ cls := "VerseCommittee$Words", name := "isThere", desc := "([II)Z" } : Jvm.MethodName) prog_12_method_12_code (4 : Nat) (Option.some Jvm.ClassFile.FieldType.boolean)) ∈ BIG := tb_3 11 rfl rfl
set_option maxRecDepth 100000 in
theorem w_583a5961 : (Jvm.Cond.methodLink "VerseCommittee$Words" (55 : Nat) ({ cls := "VerseCommittee$Words", name := "isSpelledSo", desc := "(I[II)Z" } : Jvm.MethodName)) ∈ BIG := tb_3 12 rfl rfl
set_option maxRecDepth 100000 in
theorem w_3e7a3426 : (Jvm.Cond.instanceMethod ({ cls := "VerseCommittee$Words", name := "isSpelledSo", desc := "(I[II)Z" } : Jvm.MethodName)) ∈ BIG := tb_3 14 rfl rfl
set_option maxRecDepth 100000 in
theorem w_ca9c3354 : (Jvm.Cond.code ({ cls := "VerseCommittee$Words", name := "isSpelledSo", desc := "(I[II)Z" } : Jvm.MethodName) prog_12_method_13_code (5 : Nat) (Option.some Jvm.ClassFile.FieldType.boolean)) ∈ BIG := tb_3 15 rfl rfl
set_option maxRecDepth 100000 in
theorem w_c8cd9b75 : (Jvm.Cond.methodLink "VerseCommittee$Words" (26 : Nat) ({ cls := "VerseCommittee$Words", name := "put", desc := "(I[II)V" } : Jvm.MethodName)) ∈ BIG := tb_3 16 rfl rfl
set_option maxRecDepth 100000 in
theorem w_6254679c : (Jvm.Cond.instanceMethod ({ cls := "VerseCommittee$Words", name := "put", desc := "(I[II)V" } : Jvm.MethodName)) ∈ BIG := tb_3 18 rfl rfl
set_option maxRecDepth 100000 in
theorem w_eeb0e597 : (Jvm.Cond.code ({ cls := "VerseCommittee$Words", name := "put", desc := "(I[II)V" } : Jvm.MethodName) prog_12_method_11_code (5 : Nat) (Option.none : Option Jvm.ClassFile.FieldType)) ∈ BIG := tb_3 19 rfl rfl
set_option maxRecDepth 100000 in
theorem w_5200bd5d : (Jvm.Cond.methodLink "VerseCommittee$Words" (52 : Nat) ({ cls := "java/lang/Math", name := "min", desc := "(II)I" } : Jvm.MethodName)) ∈ BIG := tb_3 20 rfl rfl
set_option maxRecDepth 100000 in
theorem w_183bd677 : (Jvm.Cond.static ({ cls := "java/lang/Math", name := "min", desc := "(II)I" } : Jvm.MethodName)) ∈ BIG := tb_3 21 rfl rfl
set_option maxRecDepth 100000 in
theorem w_62b4f508 : (Jvm.Cond.methodLink "VerseCommitteeLaw" (38 : Nat) ({ cls := "VerseCommittee", name := "spell", desc := "(III)Z" } : Jvm.MethodName)) ∈ BIG := tb_3 23 rfl rfl
set_option maxRecDepth 100000 in
theorem w_cbc0d1a6 : (Jvm.Cond.instanceMethod ({ cls := "VerseCommittee", name := "spell", desc := "(III)Z" } : Jvm.MethodName)) ∈ BIG := tb_3 24 rfl rfl
set_option maxRecDepth 100000 in
theorem w_e6166115 : (Jvm.Cond.selects "VerseCommittee" ({ cls := "VerseCommittee", name := "spell", desc := "(III)Z" } : Jvm.MethodName) ({ cls := "VerseCommittee", name := "spell", desc := "(III)Z" } : Jvm.MethodName)) ∈ BIG := tb_3 25 rfl rfl
set_option maxRecDepth 100000 in
theorem w_c7e3cd7a : (Jvm.Cond.code ({ cls := "VerseCommittee", name := "spell", desc := "(III)Z" } : Jvm.MethodName) prog_1_method_7_code (4 : Nat) (Option.some Jvm.ClassFile.FieldType.boolean)) ∈ BIG := tb_3 26 rfl rfl
set_option maxRecDepth 100000 in
theorem w_8a1bf452 : (Jvm.Cond.methodLink "VerseCommittee" (136 : Nat) ({ cls := "VerseCommittee", name := "isEdition", desc := "(I)Z" } : Jvm.MethodName)) ∈ BIG := tb_3 27 rfl rfl
set_option maxRecDepth 100000 in
theorem w_1bc35d23 : (Jvm.Cond.static ({ cls := "VerseCommittee", name := "isEdition", desc := "(I)Z" } : Jvm.MethodName)) ∈ BIG := tb_3 28 rfl rfl
set_option maxRecDepth 100000 in
theorem w_6f37a803 : (Jvm.Cond.code ({ cls := "VerseCommittee", name := "isEdition", desc := "(I)Z" } : Jvm.MethodName) prog_1_method_45_code (1 : Nat) (Option.some Jvm.ClassFile.FieldType.boolean)) ∈ BIG := tb_3 29 rfl rfl
set_option maxRecDepth 100000 in
theorem w_d6f82b92 : (Jvm.Cond.methodLink "VerseCommittee" (139 : Nat) ({ cls := "VerseCommittee$Words", name := "has", desc := "(I)Z" } : Jvm.MethodName)) ∈ BIG := tb_3 30 rfl rfl
set_option maxRecDepth 100000 in
theorem w_ced9779e : (Jvm.Cond.instanceMethod ({ cls := "VerseCommittee$Words", name := "has", desc := "(I)Z" } : Jvm.MethodName)) ∈ BIG := tb_3 31 rfl rfl
set_option maxRecDepth 100000 in
theorem w_0eb1ea52 : (Jvm.Cond.selects "VerseCommittee$Words" ({ cls := "VerseCommittee$Words", name := "has", desc := "(I)Z" } : Jvm.MethodName) ({ cls := "VerseCommittee$Words", name := "has", desc := "(I)Z" } : Jvm.MethodName)) ∈ BIG := tb_3 32 rfl rfl
set_option maxRecDepth 100000 in
theorem w_1e8979d4 : (Jvm.Cond.code ({ cls := "VerseCommittee$Words", name := "has", desc := "(I)Z" } : Jvm.MethodName) prog_12_method_3_code (2 : Nat) (Option.some Jvm.ClassFile.FieldType.boolean)) ∈ BIG := tb_3 33 rfl rfl
set_option maxRecDepth 100000 in
theorem w_8063de2c : (Jvm.Cond.methodLink "VerseCommittee" (140 : Nat) ({ cls := "VerseCommittee$Words", name := "respell", desc := "(II[II)V" } : Jvm.MethodName)) ∈ BIG := tb_3 34 rfl rfl
set_option maxRecDepth 100000 in
theorem w_3051d94a : (Jvm.Cond.instanceMethod ({ cls := "VerseCommittee$Words", name := "respell", desc := "(II[II)V" } : Jvm.MethodName)) ∈ BIG := tb_3 35 rfl rfl
set_option maxRecDepth 100000 in
theorem w_19e6e07f : (Jvm.Cond.selects "VerseCommittee$Words" ({ cls := "VerseCommittee$Words", name := "respell", desc := "(II[II)V" } : Jvm.MethodName) ({ cls := "VerseCommittee$Words", name := "respell", desc := "(II[II)V" } : Jvm.MethodName)) ∈ BIG := tb_3 36 rfl rfl
set_option maxRecDepth 100000 in
theorem w_3a73df1a : (Jvm.Cond.code ({ cls := "VerseCommittee$Words", name := "respell", desc := "(II[II)V" } : Jvm.MethodName) prog_12_method_5_code (5 : Nat) (Option.none : Option Jvm.ClassFile.FieldType)) ∈ BIG := tb_3 37 rfl rfl
set_option maxRecDepth 100000 in
theorem w_312b4911 : (Jvm.Cond.methodLink "VerseCommittee$Words" (30 : Nat) ({ cls := "VerseCommittee$Words", name := "has", desc := "(I)Z" } : Jvm.MethodName)) ∈ BIG := tb_3 38 rfl rfl
set_option maxRecDepth 100000 in
theorem w_76f51035 : (Jvm.Cond.methodLink "VerseCommitteeLaw" (42 : Nat) ({ cls := "VerseCommittee", name := "syllables", desc := "(I)I" } : Jvm.MethodName)) ∈ BIG := tb_3 40 rfl rfl
set_option maxRecDepth 100000 in
theorem w_741931f2 : (Jvm.Cond.instanceMethod ({ cls := "VerseCommittee", name := "syllables", desc := "(I)I" } : Jvm.MethodName)) ∈ BIG := tb_3 41 rfl rfl
set_option maxRecDepth 100000 in
theorem w_fe975664 : (Jvm.Cond.selects "VerseCommittee" ({ cls := "VerseCommittee", name := "syllables", desc := "(I)I" } : Jvm.MethodName) ({ cls := "VerseCommittee", name := "syllables", desc := "(I)I" } : Jvm.MethodName)) ∈ BIG := tb_3 42 rfl rfl
set_option maxRecDepth 100000 in
theorem w_66b4e743 : (Jvm.Cond.code ({ cls := "VerseCommittee", name := "syllables", desc := "(I)I" } : Jvm.MethodName) prog_1_method_8_code (2 : Nat) (Option.some Jvm.ClassFile.FieldType.int)) ∈ BIG := tb_3 43 rfl rfl
set_option maxRecDepth 100000 in
theorem w_2d56233c : (Jvm.Cond.methodLink "VerseCommittee" (143 : Nat) ({ cls := "VerseCommittee$Words", name := "vowelRows", desc := "(I)I" } : Jvm.MethodName)) ∈ BIG := tb_3 44 rfl rfl
set_option maxRecDepth 100000 in
theorem w_cf7f859b : (Jvm.Cond.instanceMethod ({ cls := "VerseCommittee$Words", name := "vowelRows", desc := "(I)I" } : Jvm.MethodName)) ∈ BIG := tb_3 45 rfl rfl
set_option maxRecDepth 100000 in
theorem w_5e2dcb75 : (Jvm.Cond.selects "VerseCommittee$Words" ({ cls := "VerseCommittee$Words", name := "vowelRows", desc := "(I)I" } : Jvm.MethodName) ({ cls := "VerseCommittee$Words", name := "vowelRows", desc := "(I)I" } : Jvm.MethodName)) ∈ BIG := tb_3 46 rfl rfl
