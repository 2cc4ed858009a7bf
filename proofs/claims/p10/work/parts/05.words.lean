/-! words of the tables by their places, classes, numbers -/
theorem w_003a194b : (Jvm.Cond.selects "VerseCommittee$Rendering" ({ cls := "VerseCommittee$Rendering", name := "enterState", desc := "(I)V" } : Jvm.MethodName) ({ cls := "VerseCommittee$Rendering", name := "enterState", desc := "(I)V" } : Jvm.MethodName)) ∈ BIG := big_mem 1160 (by decide +kernel) rfl
theorem w_00468a34 : (Jvm.Cond.code ({ cls := "VerseCommitteeModel", name := "quarrel", desc := "(III)I" } : Jvm.MethodName) prog_14_method_88_code (4 : Nat) (Option.some Jvm.ClassFile.FieldType.int)) ∈ BIG := big_mem 2241 (by decide +kernel) rfl
theorem w_00c5d893 : (Jvm.Cond.code ({ cls := "VerseCommitteeModel", name := "joins", desc := "(Z)V" } : Jvm.MethodName) prog_14_method_41_code (2 : Nat) (Option.none : Option Jvm.ClassFile.FieldType)) ∈ BIG := big_mem 2098 (by decide +kernel) rfl
theorem w_011ef822 : (Jvm.Cond.selects "VerseCommittee$Choices" ({ cls := "VerseCommittee$Choices", name := "choiceOfRow", desc := "()I" } : Jvm.MethodName) ({ cls := "VerseCommittee$Choices", name := "choiceOfRow", desc := "()I" } : Jvm.MethodName)) ∈ BIG := big_mem 60 (by decide +kernel) rfl
theorem w_014eb45b : (Jvm.Cond.instanceMethod ({ cls := "VerseCommittee$Rendering", name := "stage", desc := "()I" } : Jvm.MethodName)) ∈ BIG := big_mem 1102 (by decide +kernel) rfl
theorem w_016b77ea : (Jvm.Cond.instanceMethod ({ cls := "VerseCommittee$Verses", name := "rowOf", desc := "(II)[I" } : Jvm.MethodName)) ∈ BIG := big_mem 900 (by decide +kernel) rfl
theorem w_017bcf4c : (Jvm.Cond.fieldLink "VerseCommitteeModel" (66 : Nat) "VerseCommitteeModel" "letter" "[I") ∈ BIG := big_mem 1651 (by decide +kernel) rfl
theorem w_01a6f0bb : (Jvm.Cond.methodLink "VerseCommittee$Planner" (3 : Nat) ({ cls := "java/lang/Object", name := "<init>", desc := "()V" } : Jvm.MethodName)) ∈ BIG := big_mem 501 (by decide +kernel) rfl
theorem w_021f93d7 : (Jvm.Cond.instanceMethod ({ cls := "VerseCommittee$Reckoner", name := "restDays", desc := "()I" } : Jvm.MethodName)) ∈ BIG := big_mem 972 (by decide +kernel) rfl
theorem w_022ec803 : (Jvm.Cond.instanceMethod ({ cls := "VerseCommitteeModel", name := "readsRank", desc := "(I)V" } : Jvm.MethodName)) ∈ BIG := big_mem 2033 (by decide +kernel) rfl
theorem w_023a0e9d : (Jvm.Cond.code ({ cls := "VerseCommittee$Reckoner", name := "isTermSign", desc := "(I)Z" } : Jvm.MethodName) prog_8_method_18_code (1 : Nat) (Option.some Jvm.ClassFile.FieldType.boolean)) ∈ BIG := big_mem 962 (by decide +kernel) rfl
theorem w_026501e4 : (Jvm.Cond.methodLink "VerseCommittee" (214 : Nat) ({ cls := "VerseCommittee", name := "distance", desc := "([I[I)I" } : Jvm.MethodName)) ∈ BIG := big_mem 996 (by decide +kernel) rfl
theorem w_0277f486 : (Jvm.Cond.methodLink "VerseCommittee$Choices" (133 : Nat) ({ cls := "VerseCommittee$Reckoner", name := "isInForce", desc := "(I)Z" } : Jvm.MethodName)) ∈ BIG := big_mem 1396 (by decide +kernel) rfl
theorem w_02898297 : (Jvm.Cond.fieldLink "VerseCommittee$Choices" (47 : Nat) "VerseCommittee$Choices" "shelf" "LVerseCommittee$Shelf;") ∈ BIG := big_mem 455 (by decide +kernel) rfl
theorem w_02977e6a : (Jvm.Cond.fieldLink "VerseCommittee$Planner" (23 : Nat) "VerseCommittee$Planner" "row" "[I") ∈ BIG := big_mem 508 (by decide +kernel) rfl
theorem w_02a7548d : (Jvm.Cond.fieldLink "VerseCommitteeModel" (84 : Nat) "VerseCommitteeModel" "code" "[I") ∈ BIG := big_mem 1657 (by decide +kernel) rfl
theorem w_02cfd92e : (Jvm.Cond.selects "VerseCommittee$Parser" ({ cls := "VerseCommittee$Parser", name := "readSum", desc := "(I)Z" } : Jvm.MethodName) ({ cls := "VerseCommittee$Parser", name := "readSum", desc := "(I)Z" } : Jvm.MethodName)) ∈ BIG := big_mem 18 (by decide +kernel) rfl
theorem w_03076dea : (Jvm.Cond.fieldLink "VerseCommittee$Verses" (29 : Nat) "VerseCommittee$Verses" "size" "I") ∈ BIG := big_mem 203 (by decide +kernel) rfl
theorem w_03273d90 : (Jvm.Cond.instanceMethod ({ cls := "VerseCommitteeModel", name := "check", desc := "(I)I" } : Jvm.MethodName)) ∈ BIG := big_mem 2380 (by decide +kernel) rfl
theorem w_0364d22b : (Jvm.Cond.code ({ cls := "VerseCommitteeModel", name := "sums", desc := "(Z)V" } : Jvm.MethodName) prog_14_method_40_code (2 : Nat) (Option.none : Option Jvm.ClassFile.FieldType)) ∈ BIG := big_mem 2079 (by decide +kernel) rfl
theorem w_0370dd8d : (Jvm.Cond.instanceMethod ({ cls := "VerseCommittee$Rendering", name := "goBack", desc := "(I)V" } : Jvm.MethodName)) ∈ BIG := big_mem 1197 (by decide +kernel) rfl
theorem w_037b5fcc : (Jvm.Cond.fieldLink "VerseCommitteeModel" (38 : Nat) "VerseCommitteeModel" "scholarOf" "[I") ∈ BIG := big_mem 1642 (by decide +kernel) rfl
theorem w_037b88e0 : (Jvm.Cond.selects "VerseCommittee" ({ cls := "VerseCommittee", name := "differ", desc := "(III)I" } : Jvm.MethodName) ({ cls := "VerseCommittee", name := "differ", desc := "(III)I" } : Jvm.MethodName)) ∈ BIG := big_mem 994 (by decide +kernel) rfl
theorem w_037c0529 : (Jvm.Cond.methodLink "VerseCommitteeLaw" (165 : Nat) ({ cls := "VerseCommittee", name := "judge", desc := "(I)I" } : Jvm.MethodName)) ∈ BIG := big_mem 1555 (by decide +kernel) rfl
theorem w_037d7e9c : (Jvm.Cond.instanceMethod ({ cls := "VerseCommittee$Verses", name := "putRow", desc := "(II[II)V" } : Jvm.MethodName)) ∈ BIG := big_mem 619 (by decide +kernel) rfl
theorem w_03aeda08 : (Jvm.Cond.methodLink "VerseCommitteeModel" (512 : Nat) ({ cls := "VerseCommitteeModel", name := "bars", desc := "(II)V" } : Jvm.MethodName)) ∈ BIG := big_mem 2301 (by decide +kernel) rfl
theorem w_03af7a9e : (Jvm.Cond.selects "VerseCommittee$Shelf" ({ cls := "VerseCommittee$Shelf", name := "setFixed", desc := "(III)V" } : Jvm.MethodName) ({ cls := "VerseCommittee$Shelf", name := "setFixed", desc := "(III)V" } : Jvm.MethodName)) ∈ BIG := big_mem 40 (by decide +kernel) rfl
theorem w_03d611dc : (Jvm.Cond.static ({ cls := "VerseCommittee", name := "isSign", desc := "(I)Z" } : Jvm.MethodName)) ∈ BIG := big_mem 1339 (by decide +kernel) rfl
theorem w_03e2963d : (Jvm.Cond.instanceMethod ({ cls := "VerseCommitteeModel", name := "rules", desc := "(IIII)I" } : Jvm.MethodName)) ∈ BIG := big_mem 1992 (by decide +kernel) rfl
theorem w_0473f105 : (Jvm.Cond.methodLink "VerseCommitteeLaw" (90 : Nat) ({ cls := "VerseCommittee", name := "close", desc := "(I)I" } : Jvm.MethodName)) ∈ BIG := big_mem 1115 (by decide +kernel) rfl
theorem w_04743ae7 : (Jvm.Cond.instanceMethod ({ cls := "VerseCommittee", name := "tapeHasTokens", desc := "(I)Z" } : Jvm.MethodName)) ∈ BIG := big_mem 616 (by decide +kernel) rfl
theorem w_04d863e7 : (Jvm.Cond.code ({ cls := "VerseCommitteeModel", name := "fixedOn", desc := "(II)I" } : Jvm.MethodName) prog_14_method_80_code (3 : Nat) (Option.some Jvm.ClassFile.FieldType.int)) ∈ BIG := big_mem 2213 (by decide +kernel) rfl
theorem w_04f01247 : (Jvm.Cond.selects "VerseCommittee$Parser" ({ cls := "VerseCommittee$Parser", name := "readRanks", desc := "(I)Z" } : Jvm.MethodName) ({ cls := "VerseCommittee$Parser", name := "readRanks", desc := "(I)Z" } : Jvm.MethodName)) ∈ BIG := big_mem 23 (by decide +kernel) rfl
theorem w_05b839db : (Jvm.Cond.methodLink "VerseCommittee$Laws" (52 : Nat) ({ cls := "VerseCommittee$Laws", name := "isFull", desc := "()Z" } : Jvm.MethodName)) ∈ BIG := big_mem 742 (by decide +kernel) rfl
theorem w_05cbd97e : (Jvm.Cond.selects "VerseCommittee$Words" ({ cls := "VerseCommittee$Words", name := "put", desc := "(I[II)V" } : Jvm.MethodName) ({ cls := "VerseCommittee$Words", name := "put", desc := "(I[II)V" } : Jvm.MethodName)) ∈ BIG := big_mem 6 (by decide +kernel) rfl
theorem w_05cdd5f4 : (Jvm.Cond.selects "VerseCommitteeModel" ({ cls := "VerseCommitteeModel", name := "readsMust", desc := "(I)V" } : Jvm.MethodName) ({ cls := "VerseCommitteeModel", name := "readsMust", desc := "(I)V" } : Jvm.MethodName)) ∈ BIG := big_mem 86 (by decide +kernel) rfl
theorem w_05d0163a : (Jvm.Cond.code ({ cls := "VerseCommittee$Shelf", name := "fixedVerses", desc := "()I" } : Jvm.MethodName) prog_10_method_9_code (3 : Nat) (Option.some Jvm.ClassFile.FieldType.int)) ∈ BIG := big_mem 1613 (by decide +kernel) rfl
theorem w_05e4f42c : (Jvm.Cond.code ({ cls := "VerseCommittee", name := "one", desc := "()I" } : Jvm.MethodName) prog_1_method_30_code (1 : Nat) (Option.some Jvm.ClassFile.FieldType.int)) ∈ BIG := big_mem 1423 (by decide +kernel) rfl
theorem w_05ff86ae : (Jvm.Cond.methodLink "VerseCommitteeLaw" (80 : Nat) ({ cls := "VerseCommitteeModel", name := "differ", desc := "(III)I" } : Jvm.MethodName)) ∈ BIG := big_mem 2150 (by decide +kernel) rfl
theorem w_0620fa78 : (Jvm.Cond.selects "VerseCommittee$People" ({ cls := "VerseCommittee$People", name := "rateOf", desc := "(I)I" } : Jvm.MethodName) ({ cls := "VerseCommittee$People", name := "rateOf", desc := "(I)I" } : Jvm.MethodName)) ∈ BIG := big_mem 1548 (by decide +kernel) rfl
theorem w_062b0f4f : (Jvm.Cond.instanceMethod ({ cls := "VerseCommittee$Parser", name := "readPiece", desc := "(I)Z" } : Jvm.MethodName)) ∈ BIG := big_mem 779 (by decide +kernel) rfl
theorem w_0670c026 : (Jvm.Cond.selects "VerseCommitteeModel" ({ cls := "VerseCommitteeModel", name := "seesDigit", desc := "()Z" } : Jvm.MethodName) ({ cls := "VerseCommitteeModel", name := "seesDigit", desc := "()Z" } : Jvm.MethodName)) ∈ BIG := big_mem 88 (by decide +kernel) rfl
theorem w_06899428 : (Jvm.Cond.selects "VerseCommittee" ({ cls := "VerseCommittee", name := "putFour", desc := "(I)V" } : Jvm.MethodName) ({ cls := "VerseCommittee", name := "putFour", desc := "(I)V" } : Jvm.MethodName)) ∈ BIG := big_mem 0 (by decide +kernel) rfl
theorem w_0689e85d : (Jvm.Cond.instanceMethod ({ cls := "VerseCommittee", name := "close", desc := "(I)I" } : Jvm.MethodName)) ∈ BIG := big_mem 1116 (by decide +kernel) rfl
theorem w_068ae804 : (Jvm.Cond.methodLink "VerseCommitteeLaw" (77 : Nat) ({ cls := "VerseCommittee", name := "differ", desc := "(III)I" } : Jvm.MethodName)) ∈ BIG := big_mem 992 (by decide +kernel) rfl
theorem w_069cd8a1 : (Jvm.Cond.instanceMethod ({ cls := "VerseCommitteeModel", name := "breachesOf", desc := "(II)I" } : Jvm.MethodName)) ∈ BIG := big_mem 2224 (by decide +kernel) rfl
theorem w_07125ae8 : (Jvm.Cond.instanceMethod ({ cls := "VerseCommittee", name := "isPastDay", desc := "(I)Z" } : Jvm.MethodName)) ∈ BIG := big_mem 1211 (by decide +kernel) rfl
theorem w_071d620d : (Jvm.Cond.instanceMethod ({ cls := "VerseCommitteeModel", name := "fixedAt", desc := "(II)I" } : Jvm.MethodName)) ∈ BIG := big_mem 2216 (by decide +kernel) rfl
theorem w_0741e854 : (Jvm.Cond.code ({ cls := "VerseCommittee$Rendering", name := "isEnough", desc := "(III)Z" } : Jvm.MethodName) prog_9_method_21_code (3 : Nat) (Option.some Jvm.ClassFile.FieldType.boolean)) ∈ BIG := big_mem 1131 (by decide +kernel) rfl
theorem w_075dfab0 : (Jvm.Cond.selects "VerseCommittee$Laws" ({ cls := "VerseCommittee$Laws", name := "subject", desc := "(I)I" } : Jvm.MethodName) ({ cls := "VerseCommittee$Laws", name := "subject", desc := "(I)I" } : Jvm.MethodName)) ∈ BIG := big_mem 893 (by decide +kernel) rfl
theorem w_07c68484 : (Jvm.Cond.selects "VerseCommittee$Rendering" ({ cls := "VerseCommittee$Rendering", name := "turnAt", desc := "(I)I" } : Jvm.MethodName) ({ cls := "VerseCommittee$Rendering", name := "turnAt", desc := "(I)I" } : Jvm.MethodName)) ∈ BIG := big_mem 1387 (by decide +kernel) rfl
theorem w_07f352b2 : (Jvm.Cond.selects "VerseCommitteeModel" ({ cls := "VerseCommitteeModel", name := "ends", desc := "()V" } : Jvm.MethodName) ({ cls := "VerseCommitteeModel", name := "ends", desc := "()V" } : Jvm.MethodName)) ∈ BIG := big_mem 100 (by decide +kernel) rfl
theorem w_07fa92f1 : (Jvm.Cond.methodLink "VerseCommittee" (221 : Nat) ({ cls := "VerseCommittee$People", name := "isVoid", desc := "(I)Z" } : Jvm.MethodName)) ∈ BIG := big_mem 1009 (by decide +kernel) rfl
theorem w_083595e5 : (Jvm.Cond.code ({ cls := "VerseCommitteeModel", name := "isMeant", desc := "(II)Z" } : Jvm.MethodName) prog_14_method_81_code (3 : Nat) (Option.some Jvm.ClassFile.FieldType.boolean)) ∈ BIG := big_mem 2229 (by decide +kernel) rfl
theorem w_0875de6e : (Jvm.Cond.methodLink "VerseCommittee" (123 : Nat) ({ cls := "VerseCommittee", name := "tapeHasTokens", desc := "(I)Z" } : Jvm.MethodName)) ∈ BIG := big_mem 614 (by decide +kernel) rfl
theorem w_08959050 : (Jvm.Cond.methodLink "VerseCommitteeModel" (509 : Nat) ({ cls := "VerseCommitteeModel", name := "placeOf", desc := "(I)I" } : Jvm.MethodName)) ∈ BIG := big_mem 2278 (by decide +kernel) rfl
theorem w_089d871a : (Jvm.Cond.code ({ cls := "VerseCommittee$Words", name := "enter", desc := "([II)I" } : Jvm.MethodName) prog_12_method_4_code (3 : Nat) (Option.some Jvm.ClassFile.FieldType.int)) ∈ BIG := big_mem 635 (by decide +kernel) rfl
theorem w_08b13607 : (Jvm.Cond.instanceMethod ({ cls := "java/lang/Object", name := "<init>", desc := "()V" } : Jvm.MethodName)) ∈ BIG := big_mem 170 (by decide +kernel) rfl
theorem w_08cab4dc : (Jvm.Cond.instanceMethod ({ cls := "VerseCommittee$Shelf", name := "fixedNumber", desc := "(I)I" } : Jvm.MethodName)) ∈ BIG := big_mem 1141 (by decide +kernel) rfl
theorem w_08dc768e : (Jvm.Cond.methodLink "VerseCommitteeLaw" (28 : Nat) ({ cls := "VerseCommittee", name := "source", desc := "(III)Z" } : Jvm.MethodName)) ∈ BIG := big_mem 599 (by decide +kernel) rfl
theorem w_0909d20c : (Jvm.Cond.instanceMethod ({ cls := "VerseCommittee$Verses", name := "enter", desc := "(II)I" } : Jvm.MethodName)) ∈ BIG := big_mem 596 (by decide +kernel) rfl
theorem w_0919aae7 : (Jvm.Cond.code ({ cls := "VerseCommitteeModel", name := "close", desc := "(I)I" } : Jvm.MethodName) prog_14_method_73_code (11 : Nat) (Option.some Jvm.ClassFile.FieldType.int)) ∈ BIG := big_mem 2181 (by decide +kernel) rfl
theorem w_09334d0d : (Jvm.Cond.selects "VerseCommittee$Reckoner" ({ cls := "VerseCommittee$Reckoner", name := "letterValue", desc := "(I)I" } : Jvm.MethodName) ({ cls := "VerseCommittee$Reckoner", name := "letterValue", desc := "(I)I" } : Jvm.MethodName)) ∈ BIG := big_mem 36 (by decide +kernel) rfl
theorem w_09449219 : (Jvm.Cond.code ({ cls := "VerseCommitteeModel", name := "isTimes", desc := "(I)Z" } : Jvm.MethodName) prog_14_method_36_code (1 : Nat) (Option.some Jvm.ClassFile.FieldType.boolean)) ∈ BIG := big_mem 2072 (by decide +kernel) rfl
theorem w_097be092 : (Jvm.Cond.static ({ cls := "VerseCommittee", name := "isDay", desc := "(I)Z" } : Jvm.MethodName)) ∈ BIG := big_mem 581 (by decide +kernel) rfl
theorem w_098d4d0a : (Jvm.Cond.instanceMethod ({ cls := "VerseCommitteeModel", name := "centre", desc := "(I)Z" } : Jvm.MethodName)) ∈ BIG := big_mem 1984 (by decide +kernel) rfl
theorem w_09909e3b : (Jvm.Cond.fieldLink "VerseCommittee$Reckoner" (26 : Nat) "VerseCommittee$Reckoner" "people" "LVerseCommittee$People;") ∈ BIG := big_mem 358 (by decide +kernel) rfl
theorem w_09930176 : (Jvm.Cond.code ({ cls := "VerseCommitteeModel", name := "breach", desc := "(III)I" } : Jvm.MethodName) prog_14_method_85_code (4 : Nat) (Option.some Jvm.ClassFile.FieldType.int)) ∈ BIG := big_mem 2237 (by decide +kernel) rfl
theorem w_09be51aa : (Jvm.Cond.code ({ cls := "VerseCommittee", name := "isCopy", desc := "(I)Z" } : Jvm.MethodName) prog_1_method_44_code (1 : Nat) (Option.some Jvm.ClassFile.FieldType.boolean)) ∈ BIG := big_mem 609 (by decide +kernel) rfl
theorem w_09e6cbe1 : (Jvm.Cond.code ({ cls := "VerseCommittee$Reckoner", name := "reckonTerm", desc := "(ZI)I" } : Jvm.MethodName) prog_8_method_17_code (7 : Nat) (Option.some Jvm.ClassFile.FieldType.int)) ∈ BIG := big_mem 944 (by decide +kernel) rfl
theorem w_09ffa3ab : (Jvm.Cond.selects "VerseCommittee$Findings" ({ cls := "VerseCommittee$Findings", name := "tellClause", desc := "(II)V" } : Jvm.MethodName) ({ cls := "VerseCommittee$Findings", name := "tellClause", desc := "(II)V" } : Jvm.MethodName)) ∈ BIG := big_mem 44 (by decide +kernel) rfl
theorem w_0a5632d3 : (Jvm.Cond.methodLink "VerseCommitteeModel" (485 : Nat) ({ cls := "VerseCommitteeModel", name := "mustBeAlike", desc := "(II)Z" } : Jvm.MethodName)) ∈ BIG := big_mem 2270 (by decide +kernel) rfl
theorem w_0aa8a6bb : (Jvm.Cond.fieldLink "VerseCommittee$Planner" (37 : Nat) "VerseCommittee$Planner" "shelf" "LVerseCommittee$Shelf;") ∈ BIG := big_mem 504 (by decide +kernel) rfl
theorem w_0aaeb163 : (Jvm.Cond.code ({ cls := "VerseCommitteeModel", name := "piece", desc := "()V" } : Jvm.MethodName) prog_14_method_45_code (2 : Nat) (Option.none : Option Jvm.ClassFile.FieldType)) ∈ BIG := big_mem 2054 (by decide +kernel) rfl
theorem w_0abcbf9e : (Jvm.Cond.instanceMethod ({ cls := "VerseCommitteeModel", name := "now", desc := "(I)Z" } : Jvm.MethodName)) ∈ BIG := big_mem 1914 (by decide +kernel) rfl
theorem w_0ade23b8 : (Jvm.Cond.methodLink "VerseCommittee" (319 : Nat) ({ cls := "VerseCommittee$Choices", name := "readRow", desc := "(I)Z" } : Jvm.MethodName)) ∈ BIG := big_mem 1369 (by decide +kernel) rfl
theorem w_0b05f1ae : (Jvm.Cond.selects "VerseCommittee$Reckoner" ({ cls := "VerseCommittee$Reckoner", name := "companyThere", desc := "()I" } : Jvm.MethodName) ({ cls := "VerseCommittee$Reckoner", name := "companyThere", desc := "()I" } : Jvm.MethodName)) ∈ BIG := big_mem 985 (by decide +kernel) rfl
theorem w_0b1d1b17 : (Jvm.Cond.constant "VerseCommittee$Parser" (91 : Nat) (99999 : Int32)) ∈ BIG := big_mem 797 (by decide +kernel) rfl
theorem w_0b575149 : (Jvm.Cond.code ({ cls := "VerseCommittee", name := "breach", desc := "(III)I" } : Jvm.MethodName) prog_1_method_24_code (5 : Nat) (Option.some Jvm.ClassFile.FieldType.int)) ∈ BIG := big_mem 1270 (by decide +kernel) rfl
theorem w_0b692a03 : (Jvm.Cond.methodLink "VerseCommitteeLaw" (139 : Nat) ({ cls := "VerseCommitteeModel", name := "one", desc := "()I" } : Jvm.MethodName)) ∈ BIG := big_mem 2313 (by decide +kernel) rfl
theorem w_0b8fdea7 : (Jvm.Cond.fieldLink "VerseCommitteeModel" (290 : Nat) "VerseCommitteeModel" "open" "I") ∈ BIG := big_mem 1664 (by decide +kernel) rfl
theorem w_0b9253af : (Jvm.Cond.selects "VerseCommittee" ({ cls := "VerseCommittee", name := "plan", desc := "(I)I" } : Jvm.MethodName) ({ cls := "VerseCommittee", name := "plan", desc := "(I)I" } : Jvm.MethodName)) ∈ BIG := big_mem 1508 (by decide +kernel) rfl
theorem w_0bbd7081 : (Jvm.Cond.selects "VerseCommitteeModel" ({ cls := "VerseCommitteeModel", name := "changes", desc := "(III)I" } : Jvm.MethodName) ({ cls := "VerseCommitteeModel", name := "changes", desc := "(III)I" } : Jvm.MethodName)) ∈ BIG := big_mem 2342 (by decide +kernel) rfl
theorem w_0bd220f6 : (Jvm.Cond.fieldLink "VerseCommitteeModel" (218 : Nat) "VerseCommitteeModel" "words" "I") ∈ BIG := big_mem 1628 (by decide +kernel) rfl
theorem w_0bdca262 : (Jvm.Cond.instanceMethod ({ cls := "VerseCommittee$Findings", name := "seekUnlike", desc := "(II)Z" } : Jvm.MethodName)) ∈ BIG := big_mem 1294 (by decide +kernel) rfl
theorem w_0bfb8545 : (Jvm.Cond.fieldLink "VerseCommitteeModel" (224 : Nat) "VerseCommitteeModel" "taped" "I") ∈ BIG := big_mem 1625 (by decide +kernel) rfl
theorem w_0c5f3c16 : (Jvm.Cond.selects "VerseCommittee$People" ({ cls := "VerseCommittee$People", name := "companies", desc := "()I" } : Jvm.MethodName) ({ cls := "VerseCommittee$People", name := "companies", desc := "()I" } : Jvm.MethodName)) ∈ BIG := big_mem 1539 (by decide +kernel) rfl
theorem w_0c9201b8 : (Jvm.Cond.methodLink "VerseCommittee" (263 : Nat) ({ cls := "VerseCommittee$Shelf", name := "mayBeFixed", desc := "(III)Z" } : Jvm.MethodName)) ∈ BIG := big_mem 1132 (by decide +kernel) rfl
theorem w_0cd3fd96 : (Jvm.Cond.selects "VerseCommitteeModel" ({ cls := "VerseCommitteeModel", name := "word", desc := "(I)I" } : Jvm.MethodName) ({ cls := "VerseCommitteeModel", name := "word", desc := "(I)I" } : Jvm.MethodName)) ∈ BIG := big_mem 1946 (by decide +kernel) rfl
theorem w_0cefe3e6 : (Jvm.Cond.instanceMethod ({ cls := "VerseCommitteeModel", name := "isChoice", desc := "(I)Z" } : Jvm.MethodName)) ∈ BIG := big_mem 2292 (by decide +kernel) rfl
theorem w_0cff11dd : (Jvm.Cond.fieldLink "VerseCommitteeModel" (90 : Nat) "VerseCommitteeModel" "stack" "[I") ∈ BIG := big_mem 1668 (by decide +kernel) rfl
theorem w_0d2af3a4 : (Jvm.Cond.static ({ cls := "VerseCommitteeModel", name := "up", desc := "(II)I" } : Jvm.MethodName)) ∈ BIG := big_mem 2373 (by decide +kernel) rfl
theorem w_0da5cd43 : (Jvm.Cond.selects "VerseCommitteeModel" ({ cls := "VerseCommitteeModel", name := "mustBeAlike", desc := "(II)Z" } : Jvm.MethodName) ({ cls := "VerseCommitteeModel", name := "mustBeAlike", desc := "(II)Z" } : Jvm.MethodName)) ∈ BIG := big_mem 132 (by decide +kernel) rfl
theorem w_0db22de1 : (Jvm.Cond.code ({ cls := "VerseCommittee$Laws", name := "placeOf", desc := "(I)I" } : Jvm.MethodName) prog_4_method_6_code (1 : Nat) (Option.some Jvm.ClassFile.FieldType.int)) ∈ BIG := big_mem 1262 (by decide +kernel) rfl
theorem w_0dbb0742 : (Jvm.Cond.instanceMethod ({ cls := "VerseCommittee$Choices", name := "enter", desc := "(II)Z" } : Jvm.MethodName)) ∈ BIG := big_mem 1342 (by decide +kernel) rfl
theorem w_0dda84dc : (Jvm.Cond.instanceMethod ({ cls := "VerseCommitteeModel", name := "spell", desc := "(III)Z" } : Jvm.MethodName)) ∈ BIG := big_mem 1961 (by decide +kernel) rfl
theorem w_0de97573 : (Jvm.Cond.code ({ cls := "VerseCommitteeModel", name := "option", desc := "(II)Z" } : Jvm.MethodName) prog_14_method_96_code (5 : Nat) (Option.some Jvm.ClassFile.FieldType.boolean)) ∈ BIG := big_mem 2277 (by decide +kernel) rfl
theorem w_0e0745a2 : (Jvm.Cond.code ({ cls := "VerseCommittee$Reckoner", name := "<init>", desc := "(LVerseCommittee$Laws;LVerseCommittee$Verses;LVerseCommittee$People;)V" } : Jvm.MethodName) prog_8_method_1_code (4 : Nat) (Option.none : Option Jvm.ClassFile.FieldType)) ∈ BIG := big_mem 353 (by decide +kernel) rfl
theorem w_0e4ca46a : (Jvm.Cond.fieldLink "VerseCommitteeModel" (87 : Nat) "VerseCommitteeModel" "codeArg" "[I") ∈ BIG := big_mem 1658 (by decide +kernel) rfl
theorem w_0e6c2c5f : (Jvm.Cond.selects "VerseCommittee$Rendering" ({ cls := "VerseCommittee$Rendering", name := "becomeFixed", desc := "(I)V" } : Jvm.MethodName) ({ cls := "VerseCommittee$Rendering", name := "becomeFixed", desc := "(I)V" } : Jvm.MethodName)) ∈ BIG := big_mem 1164 (by decide +kernel) rfl
theorem w_0e7d3989 : (Jvm.Cond.selects "VerseCommittee$People" ({ cls := "VerseCommittee$People", name := "hasCompany", desc := "(I)Z" } : Jvm.MethodName) ({ cls := "VerseCommittee$People", name := "hasCompany", desc := "(I)Z" } : Jvm.MethodName)) ∈ BIG := big_mem 707 (by decide +kernel) rfl
theorem w_0e898e92 : (Jvm.Cond.instanceMethod ({ cls := "VerseCommittee$People", name := "enterCompany", desc := "(II)I" } : Jvm.MethodName)) ∈ BIG := big_mem 690 (by decide +kernel) rfl
theorem w_0e8f1c5f : (Jvm.Cond.fieldLink "VerseCommittee$Rendering" (43 : Nat) "VerseCommittee$Rendering" "scholar" "I") ∈ BIG := big_mem 1028 (by decide +kernel) rfl
theorem w_0eb1ea52 : (Jvm.Cond.selects "VerseCommittee$Words" ({ cls := "VerseCommittee$Words", name := "has", desc := "(I)Z" } : Jvm.MethodName) ({ cls := "VerseCommittee$Words", name := "has", desc := "(I)Z" } : Jvm.MethodName)) ∈ BIG := big_mem 660 (by decide +kernel) rfl
theorem w_0eb53cc5 : (Jvm.Cond.code ({ cls := "VerseCommitteeModel", name := "opens", desc := "()V" } : Jvm.MethodName) prog_14_method_32_code (1 : Nat) (Option.none : Option Jvm.ClassFile.FieldType)) ∈ BIG := big_mem 2046 (by decide +kernel) rfl
theorem w_0ef13f33 : (Jvm.Cond.selects "VerseCommitteeModel" ({ cls := "VerseCommitteeModel", name := "top", desc := "()I" } : Jvm.MethodName) ({ cls := "VerseCommitteeModel", name := "top", desc := "()I" } : Jvm.MethodName)) ∈ BIG := big_mem 99 (by decide +kernel) rfl
theorem w_0ef5f88c : (Jvm.Cond.methodLink "VerseCommitteeLaw" (33 : Nat) ({ cls := "VerseCommittee", name := "word", desc := "(I)I" } : Jvm.MethodName)) ∈ BIG := big_mem 624 (by decide +kernel) rfl
theorem w_0f027732 : (Jvm.Cond.instanceMethod ({ cls := "VerseCommittee$Rendering", name := "tell", desc := "(I)I" } : Jvm.MethodName)) ∈ BIG := big_mem 1576 (by decide +kernel) rfl
theorem w_0f3b40b5 : (Jvm.Cond.fieldLink "VerseCommittee$Planner" (45 : Nat) "VerseCommittee$Planner" "bestDays" "I") ∈ BIG := big_mem 511 (by decide +kernel) rfl
theorem w_0f47ec1d : (Jvm.Cond.methodLink "VerseCommittee" (130 : Nat) ({ cls := "VerseCommittee", name := "tapeHasLetters", desc := "(I)Z" } : Jvm.MethodName)) ∈ BIG := big_mem 628 (by decide +kernel) rfl
theorem w_0fd6fddd : (Jvm.Cond.selects "VerseCommitteeModel" ({ cls := "VerseCommitteeModel", name := "fewest", desc := "(II)I" } : Jvm.MethodName) ({ cls := "VerseCommitteeModel", name := "fewest", desc := "(II)I" } : Jvm.MethodName)) ∈ BIG := big_mem 113 (by decide +kernel) rfl
theorem w_102a483e : (Jvm.Cond.static ({ cls := "VerseCommitteeModel", name := "worked", desc := "(III)I" } : Jvm.MethodName)) ∈ BIG := big_mem 2144 (by decide +kernel) rfl
theorem w_10938217 : (Jvm.Cond.instanceMethod ({ cls := "VerseCommitteeModel", name := "isAhead", desc := "(IIII)Z" } : Jvm.MethodName)) ∈ BIG := big_mem 2319 (by decide +kernel) rfl
theorem w_109c7c82 : (Jvm.Cond.methodLink "VerseCommittee" (295 : Nat) ({ cls := "VerseCommittee$Findings", name := "seekBreach", desc := "(LVerseCommittee$Rendering;II)Z" } : Jvm.MethodName)) ∈ BIG := big_mem 1221 (by decide +kernel) rfl
theorem w_10a64ef0 : (Jvm.Cond.instanceMethod ({ cls := "VerseCommittee", name := "apart", desc := "(II)Z" } : Jvm.MethodName)) ∈ BIG := big_mem 1354 (by decide +kernel) rfl
theorem w_10e27d46 : (Jvm.Cond.initialized "VerseCommittee$Verses") ∈ BIG := big_mem 151 (by decide +kernel) rfl
theorem w_1111d8ab : (Jvm.Cond.methodLink "VerseCommitteeLaw" (76 : Nat) ({ cls := "VerseCommitteeModel", name := "token", desc := "(III)I" } : Jvm.MethodName)) ∈ BIG := big_mem 1940 (by decide +kernel) rfl
theorem w_115ab7a6 : (Jvm.Cond.fieldLink "VerseCommitteeModel" (35 : Nat) "VerseCommitteeModel" "rate" "[I") ∈ BIG := big_mem 1641 (by decide +kernel) rfl
theorem w_116bc0b8 : (Jvm.Cond.methodLink "VerseCommitteeModel" (536 : Nat) ({ cls := "VerseCommitteeModel", name := "sizeOf", desc := "(I)I" } : Jvm.MethodName)) ∈ BIG := big_mem 2337 (by decide +kernel) rfl
theorem w_1171cfdc : (Jvm.Cond.instanceMethod ({ cls := "VerseCommitteeModel", name := "reads", desc := "(IIIZ)Z" } : Jvm.MethodName)) ∈ BIG := big_mem 2330 (by decide +kernel) rfl
theorem w_11786e5e : (Jvm.Cond.methodLink "VerseCommittee$Choices" (59 : Nat) ({ cls := "VerseCommittee$Choices", name := "isOption", desc := "(II)Z" } : Jvm.MethodName)) ∈ BIG := big_mem 1349 (by decide +kernel) rfl
theorem w_1183a888 : (Jvm.Cond.methodLink "VerseCommittee" (244 : Nat) ({ cls := "VerseCommittee$Rendering", name := "isUnderVote", desc := "()Z" } : Jvm.MethodName)) ∈ BIG := big_mem 1088 (by decide +kernel) rfl
theorem w_121677c7 : (Jvm.Cond.instanceMethod ({ cls := "VerseCommittee$Reckoner", name := "hundredths", desc := "(I)I" } : Jvm.MethodName)) ∈ BIG := big_mem 968 (by decide +kernel) rfl
theorem w_122a6069 : (Jvm.Cond.selects "VerseCommittee$Planner" ({ cls := "VerseCommittee$Planner", name := "daysOf", desc := "(I)I" } : Jvm.MethodName) ({ cls := "VerseCommittee$Planner", name := "daysOf", desc := "(I)I" } : Jvm.MethodName)) ∈ BIG := big_mem 1561 (by decide +kernel) rfl
theorem w_1279c555 : (Jvm.Cond.methodLink "VerseCommitteeModel" (277 : Nat) ({ cls := "VerseCommitteeModel", name := "isGood", desc := "()Z" } : Jvm.MethodName)) ∈ BIG := big_mem 1999 (by decide +kernel) rfl
theorem w_12832203 : (Jvm.Cond.methodLink "VerseCommitteeLaw" (169 : Nat) ({ cls := "VerseCommittee", name := "check", desc := "(I)I" } : Jvm.MethodName)) ∈ BIG := big_mem 1563 (by decide +kernel) rfl
theorem w_129d722d : (Jvm.Cond.methodLink "VerseCommittee$Findings" (70 : Nat) ({ cls := "VerseCommittee$Laws", name := "speaksOf", desc := "(II)Z" } : Jvm.MethodName)) ∈ BIG := big_mem 1249 (by decide +kernel) rfl
theorem w_129fba4a : (Jvm.Cond.selects "VerseCommittee$Choices" ({ cls := "VerseCommittee$Choices", name := "part", desc := "(II)Z" } : Jvm.MethodName) ({ cls := "VerseCommittee$Choices", name := "part", desc := "(II)Z" } : Jvm.MethodName)) ∈ BIG := big_mem 1359 (by decide +kernel) rfl
theorem w_12ca7cad : (Jvm.Cond.fieldLink "VerseCommittee$Laws" (35 : Nat) "VerseCommittee$Laws" "forms" "[I") ∈ BIG := big_mem 262 (by decide +kernel) rfl
theorem w_12dbb890 : (Jvm.Cond.methodLink "VerseCommitteeLaw" (72 : Nat) ({ cls := "VerseCommitteeModel", name := "asks", desc := "(III)I" } : Jvm.MethodName)) ∈ BIG := big_mem 2099 (by decide +kernel) rfl
theorem w_12e93edd : (Jvm.Cond.selects "VerseCommittee$Verses" ({ cls := "VerseCommittee$Verses", name := "bookOf", desc := "(I)I" } : Jvm.MethodName) ({ cls := "VerseCommittee$Verses", name := "bookOf", desc := "(I)I" } : Jvm.MethodName)) ∈ BIG := big_mem 848 (by decide +kernel) rfl
theorem w_1301d9ef : (Jvm.Cond.instanceMethod ({ cls := "VerseCommittee", name := "rules", desc := "(IIII)I" } : Jvm.MethodName)) ∈ BIG := big_mem 715 (by decide +kernel) rfl
theorem w_130f2a7f : (Jvm.Cond.code ({ cls := "VerseCommitteeModel", name := "bars", desc := "(II)V" } : Jvm.MethodName) prog_14_method_98_code (7 : Nat) (Option.none : Option Jvm.ClassFile.FieldType)) ∈ BIG := big_mem 2304 (by decide +kernel) rfl
theorem w_132ff182 : (Jvm.Cond.selects "VerseCommittee$Rendering" ({ cls := "VerseCommittee$Rendering", name := "goBack", desc := "(I)V" } : Jvm.MethodName) ({ cls := "VerseCommittee$Rendering", name := "goBack", desc := "(I)V" } : Jvm.MethodName)) ∈ BIG := big_mem 1198 (by decide +kernel) rfl
theorem w_13c6dd6d : (Jvm.Cond.instanceMethod ({ cls := "VerseCommittee$Parser", name := "readRanks", desc := "(I)Z" } : Jvm.MethodName)) ∈ BIG := big_mem 808 (by decide +kernel) rfl
theorem w_13daddd5 : (Jvm.Cond.instanceMethod ({ cls := "VerseCommitteeModel", name := "rows", desc := "()I" } : Jvm.MethodName)) ∈ BIG := big_mem 2366 (by decide +kernel) rfl
theorem w_13deefe5 : (Jvm.Cond.code ({ cls := "VerseCommittee$Planner", name := "<init>", desc := "(LVerseCommittee$Verses;LVerseCommittee$People;LVerseCommittee$Shelf;)V" } : Jvm.MethodName) prog_7_method_1_code (4 : Nat) (Option.none : Option Jvm.ClassFile.FieldType)) ∈ BIG := big_mem 500 (by decide +kernel) rfl
theorem w_148886bb : (Jvm.Cond.selects "VerseCommittee$Reckoner" ({ cls := "VerseCommittee$Reckoner", name := "reckonSum", desc := "(ZI)I" } : Jvm.MethodName) ({ cls := "VerseCommittee$Reckoner", name := "reckonSum", desc := "(ZI)I" } : Jvm.MethodName)) ∈ BIG := big_mem 32 (by decide +kernel) rfl
theorem w_14974880 : (Jvm.Cond.code ({ cls := "VerseCommittee$Reckoner", name := "lastInForce", desc := "(II)I" } : Jvm.MethodName) prog_8_method_11_code (6 : Nat) (Option.some Jvm.ClassFile.FieldType.int)) ∈ BIG := big_mem 877 (by decide +kernel) rfl
theorem w_14980fef : (Jvm.Cond.selects "VerseCommitteeModel" ({ cls := "VerseCommitteeModel", name := "verse", desc := "(II)I" } : Jvm.MethodName) ({ cls := "VerseCommitteeModel", name := "verse", desc := "(II)I" } : Jvm.MethodName)) ∈ BIG := big_mem 1930 (by decide +kernel) rfl
theorem w_14ab5024 : (Jvm.Cond.methodLink "VerseCommittee" (62 : Nat) ({ cls := "VerseCommittee$Reckoner", name := "<init>", desc := "(LVerseCommittee$Laws;LVerseCommittee$Verses;LVerseCommittee$People;)V" } : Jvm.MethodName)) ∈ BIG := big_mem 351 (by decide +kernel) rfl
theorem w_14bfdc48 : (Jvm.Cond.code ({ cls := "VerseCommittee", name := "breaches", desc := "(I)I" } : Jvm.MethodName) prog_1_method_23_code (3 : Nat) (Option.some Jvm.ClassFile.FieldType.int)) ∈ BIG := big_mem 1220 (by decide +kernel) rfl
theorem w_14c60083 : (Jvm.Cond.methodLink "VerseCommittee$Parser" (82 : Nat) ({ cls := "VerseCommittee$Parser", name := "isBetween", desc := "(III)Z" } : Jvm.MethodName)) ∈ BIG := big_mem 758 (by decide +kernel) rfl
theorem w_1502eff9 : (Jvm.Cond.methodLink "VerseCommittee$Parser" (72 : Nat) ({ cls := "VerseCommittee$Parser", name := "readHundredths", desc := "(I)Z" } : Jvm.MethodName)) ∈ BIG := big_mem 810 (by decide +kernel) rfl
theorem w_154ce549 : (Jvm.Cond.methodLink "VerseCommittee" (379 : Nat) ({ cls := "VerseCommittee", name := "firstWrongByte", desc := "(I)I" } : Jvm.MethodName)) ∈ BIG := big_mem 1567 (by decide +kernel) rfl
theorem w_15506a65 : (Jvm.Cond.methodLink "VerseCommittee$Rendering" (83 : Nat) ({ cls := "VerseCommittee$Rendering", name := "wordAt", desc := "(I)I" } : Jvm.MethodName)) ∈ BIG := big_mem 1330 (by decide +kernel) rfl
theorem w_155838bb : (Jvm.Cond.selects "VerseCommittee$Reckoner" ({ cls := "VerseCommittee$Reckoner", name := "hundredths", desc := "(I)I" } : Jvm.MethodName) ({ cls := "VerseCommittee$Reckoner", name := "hundredths", desc := "(I)I" } : Jvm.MethodName)) ∈ BIG := big_mem 969 (by decide +kernel) rfl
theorem w_15b737aa : (Jvm.Cond.static ({ cls := "VerseCommittee$Reckoner", name := "isDigit", desc := "(I)Z" } : Jvm.MethodName)) ∈ BIG := big_mem 950 (by decide +kernel) rfl
theorem w_1610473b : (Jvm.Cond.methodLink "VerseCommittee$Findings" (156 : Nat) ({ cls := "VerseCommittee$Rendering", name := "turnsLike", desc := "(ILVerseCommittee$Rendering;I)Z" } : Jvm.MethodName)) ∈ BIG := big_mem 1318 (by decide +kernel) rfl
theorem w_16521dd3 : (Jvm.Cond.methodLink "VerseCommitteeModel" (542 : Nat) ({ cls := "VerseCommitteeModel", name := "prints", desc := "(I)V" } : Jvm.MethodName)) ∈ BIG := big_mem 2348 (by decide +kernel) rfl
theorem w_1666037e : (Jvm.Cond.instanceMethod ({ cls := "VerseCommittee$Findings", name := "isUnlike", desc := "(II)Z" } : Jvm.MethodName)) ∈ BIG := big_mem 1312 (by decide +kernel) rfl
theorem w_169c6928 : (Jvm.Cond.methodLink "VerseCommittee$Reckoner" (153 : Nat) ({ cls := "VerseCommittee$Reckoner", name := "isDigit", desc := "(I)Z" } : Jvm.MethodName)) ∈ BIG := big_mem 949 (by decide +kernel) rfl
theorem w_16f2707b : (Jvm.Cond.fieldLink "VerseCommittee$Rendering" (40 : Nat) "VerseCommittee$Rendering" "keptNeed" "[I") ∈ BIG := big_mem 1041 (by decide +kernel) rfl
theorem w_172d3848 : (Jvm.Cond.methodLink "VerseCommittee$Rendering" (86 : Nat) ({ cls := "VerseCommittee$Rendering", name := "leftBits", desc := "()I" } : Jvm.MethodName)) ∈ BIG := big_mem 1579 (by decide +kernel) rfl
theorem w_1731f48c : (Jvm.Cond.fieldLink "VerseCommittee" (81 : Nat) "VerseCommittee" "choices" "LVerseCommittee$Choices;") ∈ BIG := big_mem 543 (by decide +kernel) rfl
theorem w_17375193 : (Jvm.Cond.methodLink "VerseCommittee$Shelf" (73 : Nat) ({ cls := "VerseCommittee$Rendering", name := "takeOut", desc := "(I)I" } : Jvm.MethodName)) ∈ BIG := big_mem 1187 (by decide +kernel) rfl
theorem w_1757b628 : (Jvm.Cond.instanceMethod ({ cls := "VerseCommittee$Laws", name := "isOf", desc := "(II)Z" } : Jvm.MethodName)) ∈ BIG := big_mem 885 (by decide +kernel) rfl
theorem w_17684cc9 : (Jvm.Cond.methodLink "VerseCommittee" (210 : Nat) ({ cls := "VerseCommittee$Verses", name := "rowOf", desc := "(II)[I" } : Jvm.MethodName)) ∈ BIG := big_mem 991 (by decide +kernel) rfl
theorem w_178378a3 : (Jvm.Cond.fieldLink "VerseCommitteeModel" (364 : Nat) "VerseCommitteeModel" "many" "I") ∈ BIG := big_mem 1662 (by decide +kernel) rfl
theorem w_17842695 : (Jvm.Cond.selects "VerseCommittee$Planner" ({ cls := "VerseCommittee$Planner", name := "answer", desc := "(I)I" } : Jvm.MethodName) ({ cls := "VerseCommittee$Planner", name := "answer", desc := "(I)I" } : Jvm.MethodName)) ∈ BIG := big_mem 1512 (by decide +kernel) rfl
theorem w_17a3623b : (Jvm.Cond.selects "VerseCommittee$Findings" ({ cls := "VerseCommittee$Findings", name := "seekUnlike", desc := "(II)Z" } : Jvm.MethodName) ({ cls := "VerseCommittee$Findings", name := "seekUnlike", desc := "(II)Z" } : Jvm.MethodName)) ∈ BIG := big_mem 1295 (by decide +kernel) rfl
theorem w_17a75abd : (Jvm.Cond.methodLink "VerseCommitteeModel" (265 : Nat) ({ cls := "VerseCommitteeModel", name := "has", desc := "(II)Z" } : Jvm.MethodName)) ∈ BIG := big_mem 2035 (by decide +kernel) rfl
theorem w_17ae92bb : (Jvm.Cond.instanceMethod ({ cls := "VerseCommittee$Findings", name := "markAlike", desc := "(II)Z" } : Jvm.MethodName)) ∈ BIG := big_mem 1304 (by decide +kernel) rfl
theorem w_17ed9d0f : (Jvm.Cond.code ({ cls := "VerseCommittee$People", name := "voters", desc := "(II)I" } : Jvm.MethodName) prog_6_method_15_code (3 : Nat) (Option.some Jvm.ClassFile.FieldType.int)) ∈ BIG := big_mem 1109 (by decide +kernel) rfl
theorem w_182e3c91 : (Jvm.Cond.code ({ cls := "VerseCommittee$Choices", name := "chosen", desc := "(I)I" } : Jvm.MethodName) prog_2_method_12_code (2 : Nat) (Option.some Jvm.ClassFile.FieldType.int)) ∈ BIG := big_mem 1419 (by decide +kernel) rfl
theorem w_183bd677 : (Jvm.Cond.static ({ cls := "java/lang/Math", name := "min", desc := "(II)I" } : Jvm.MethodName)) ∈ BIG := big_mem 649 (by decide +kernel) rfl
theorem w_18445bed : (Jvm.Cond.instanceMethod ({ cls := "VerseCommittee$Parser", name := "readRest", desc := "(I)Z" } : Jvm.MethodName)) ∈ BIG := big_mem 816 (by decide +kernel) rfl
theorem w_187ea749 : (Jvm.Cond.static ({ cls := "VerseCommitteeModel", name := "digit", desc := "(III)I" } : Jvm.MethodName)) ∈ BIG := big_mem 2295 (by decide +kernel) rfl
theorem w_1883b9e3 : (Jvm.Cond.methodLink "VerseCommitteeLaw" (54 : Nat) ({ cls := "VerseCommittee", name := "scholar", desc := "(IZ)I" } : Jvm.MethodName)) ∈ BIG := big_mem 701 (by decide +kernel) rfl
theorem w_1894c4a9 : (Jvm.Cond.static ({ cls := "VerseCommittee$Planner", name := "through", desc := "(II)I" } : Jvm.MethodName)) ∈ BIG := big_mem 1531 (by decide +kernel) rfl
theorem w_18b25828 : (Jvm.Cond.methodLink "VerseCommitteeLaw" (130 : Nat) ({ cls := "VerseCommitteeModel", name := "apart", desc := "(II)Z" } : Jvm.MethodName)) ∈ BIG := big_mem 2282 (by decide +kernel) rfl
theorem w_18bc2c87 : (Jvm.Cond.methodLink "VerseCommittee" (1 : Nat) ({ cls := "java/lang/Object", name := "<init>", desc := "()V" } : Jvm.MethodName)) ∈ BIG := big_mem 169 (by decide +kernel) rfl
theorem w_18c2f3fb : (Jvm.Cond.instanceMethod ({ cls := "VerseCommitteeModel", name := "bestRow", desc := "()I" } : Jvm.MethodName)) ∈ BIG := big_mem 2362 (by decide +kernel) rfl
theorem w_18ce4b9a : (Jvm.Cond.fieldLink "VerseCommittee" (9 : Nat) "VerseCommittee" "tape" "[I") ∈ BIG := big_mem 533 (by decide +kernel) rfl
theorem w_18d886b1 : (Jvm.Cond.methodLink "VerseCommittee$People" (28 : Nat) ({ cls := "VerseCommittee$People", name := "hasCompany", desc := "(I)Z" } : Jvm.MethodName)) ∈ BIG := big_mem 713 (by decide +kernel) rfl
theorem w_18e39bee : (Jvm.Cond.selects "VerseCommittee$Reckoner" ({ cls := "VerseCommittee$Reckoner", name := "verdict", desc := "(I)I" } : Jvm.MethodName) ({ cls := "VerseCommittee$Reckoner", name := "verdict", desc := "(I)I" } : Jvm.MethodName)) ∈ BIG := big_mem 907 (by decide +kernel) rfl
theorem w_18e697ef : (Jvm.Cond.methodLink "VerseCommittee$Shelf" (42 : Nat) ({ cls := "VerseCommittee$Shelf", name := "at", desc := "(I)LVerseCommittee$Rendering;" } : Jvm.MethodName)) ∈ BIG := big_mem 1144 (by decide +kernel) rfl
theorem w_1920d316 : (Jvm.Cond.methodLink "VerseCommitteeModel" (235 : Nat) ({ cls := "VerseCommitteeModel", name := "isSmall", desc := "(I)Z" } : Jvm.MethodName)) ∈ BIG := big_mem 1948 (by decide +kernel) rfl
theorem w_19b6644a : (Jvm.Cond.selects "VerseCommittee$Findings" ({ cls := "VerseCommittee$Findings", name := "seekSecond", desc := "(III)Z" } : Jvm.MethodName) ({ cls := "VerseCommittee$Findings", name := "seekSecond", desc := "(III)Z" } : Jvm.MethodName)) ∈ BIG := big_mem 45 (by decide +kernel) rfl
theorem w_19b8acbd : (Jvm.Cond.instanceMethod ({ cls := "VerseCommitteeModel", name := "isSmall", desc := "(I)Z" } : Jvm.MethodName)) ∈ BIG := big_mem 1950 (by decide +kernel) rfl
theorem w_19e6e07f : (Jvm.Cond.selects "VerseCommittee$Words" ({ cls := "VerseCommittee$Words", name := "respell", desc := "(II[II)V" } : Jvm.MethodName) ({ cls := "VerseCommittee$Words", name := "respell", desc := "(II[II)V" } : Jvm.MethodName)) ∈ BIG := big_mem 664 (by decide +kernel) rfl
theorem w_19f22ba8 : (Jvm.Cond.methodLink "VerseCommitteeLaw" (18 : Nat) ({ cls := "VerseCommittee", name := "feed", desc := "(IIIII)I" } : Jvm.MethodName)) ∈ BIG := big_mem 583 (by decide +kernel) rfl
theorem w_1a711aa2 : (Jvm.Cond.methodLink "VerseCommitteeLaw" (41 : Nat) ({ cls := "VerseCommitteeModel", name := "spell", desc := "(III)Z" } : Jvm.MethodName)) ∈ BIG := big_mem 1960 (by decide +kernel) rfl
theorem w_1aad610f : (Jvm.Cond.methodLink "VerseCommitteeModel" (246 : Nat) ({ cls := "VerseCommitteeModel", name := "isWord", desc := "(I)Z" } : Jvm.MethodName)) ∈ BIG := big_mem 1964 (by decide +kernel) rfl
theorem w_1aad94ba : (Jvm.Cond.code ({ cls := "VerseCommittee", name := "unlike", desc := "(II)I" } : Jvm.MethodName) prog_1_method_26_code (3 : Nat) (Option.some Jvm.ClassFile.FieldType.int)) ∈ BIG := big_mem 1292 (by decide +kernel) rfl
theorem w_1aeae1c4 : (Jvm.Cond.code ({ cls := "VerseCommittee", name := "<init>", desc := "()V" } : Jvm.MethodName) prog_1_method_1_code (1 : Nat) (Option.none : Option Jvm.ClassFile.FieldType)) ∈ BIG := big_mem 168 (by decide +kernel) rfl
theorem w_1b09bd8a : (Jvm.Cond.methodLink "VerseCommitteeLaw" (118 : Nat) ({ cls := "VerseCommittee", name := "unlike", desc := "(II)I" } : Jvm.MethodName)) ∈ BIG := big_mem 1289 (by decide +kernel) rfl
theorem w_1b4329d1 : (Jvm.Cond.instanceMethod ({ cls := "VerseCommittee$Choices", name := "addPrices", desc := "(LVerseCommittee$Rendering;)V" } : Jvm.MethodName)) ∈ BIG := big_mem 1381 (by decide +kernel) rfl
theorem w_1b462366 : (Jvm.Cond.instanceMethod ({ cls := "VerseCommitteeModel", name := "plan", desc := "(I)I" } : Jvm.MethodName)) ∈ BIG := big_mem 2353 (by decide +kernel) rfl
theorem w_1b4701fb : (Jvm.Cond.methodLink "VerseCommitteeModel" (358 : Nat) ({ cls := "VerseCommitteeModel", name := "goesBehind", desc := "()Z" } : Jvm.MethodName)) ∈ BIG := big_mem 2091 (by decide +kernel) rfl
theorem w_1b7f8777 : (Jvm.Cond.selects "VerseCommittee$Rendering" ({ cls := "VerseCommittee$Rendering", name := "nextSlot", desc := "(II)I" } : Jvm.MethodName) ({ cls := "VerseCommittee$Rendering", name := "nextSlot", desc := "(II)I" } : Jvm.MethodName)) ∈ BIG := big_mem 50 (by decide +kernel) rfl
theorem w_1b98a3c6 : (Jvm.Cond.instanceMethod ({ cls := "VerseCommitteeModel", name := "changes", desc := "(III)I" } : Jvm.MethodName)) ∈ BIG := big_mem 2341 (by decide +kernel) rfl
theorem w_1bb036bd : (Jvm.Cond.code ({ cls := "VerseCommittee", name := "isRate", desc := "(I)Z" } : Jvm.MethodName) prog_1_method_46_code (1 : Nat) (Option.some Jvm.ClassFile.FieldType.boolean)) ∈ BIG := big_mem 688 (by decide +kernel) rfl
theorem w_1bc35d23 : (Jvm.Cond.static ({ cls := "VerseCommittee", name := "isEdition", desc := "(I)Z" } : Jvm.MethodName)) ∈ BIG := big_mem 656 (by decide +kernel) rfl
theorem w_1bfa5204 : (Jvm.Cond.fieldLink "VerseCommittee$Rendering" (46 : Nat) "VerseCommittee$Rendering" "verse" "I") ∈ BIG := big_mem 1029 (by decide +kernel) rfl
theorem w_1c54610a : (Jvm.Cond.fieldLink "VerseCommitteeModel" (159 : Nat) "VerseCommitteeModel" "saidYes" "[I") ∈ BIG := big_mem 1691 (by decide +kernel) rfl
theorem w_1c5e1d62 : (Jvm.Cond.methodLink "VerseCommittee$Rendering" (80 : Nat) ({ cls := "VerseCommittee$Rendering", name := "slots", desc := "()I" } : Jvm.MethodName)) ∈ BIG := big_mem 1326 (by decide +kernel) rfl
theorem w_1c7578e8 : (Jvm.Cond.instanceMethod ({ cls := "VerseCommittee$Verses", name := "measureOf", desc := "(I)I" } : Jvm.MethodName)) ∈ BIG := big_mem 851 (by decide +kernel) rfl
theorem w_1cac97d9 : (Jvm.Cond.instanceMethod ({ cls := "VerseCommitteeModel", name := "isVerse", desc := "(I)Z" } : Jvm.MethodName)) ∈ BIG := big_mem 1938 (by decide +kernel) rfl
theorem w_1cb5fbf6 : (Jvm.Cond.selects "VerseCommittee$Planner" ({ cls := "VerseCommittee$Planner", name := "giveTo", desc := "(III)V" } : Jvm.MethodName) ({ cls := "VerseCommittee$Planner", name := "giveTo", desc := "(III)V" } : Jvm.MethodName)) ∈ BIG := big_mem 70 (by decide +kernel) rfl
theorem w_1cbf7137 : (Jvm.Cond.code ({ cls := "VerseCommittee", name := "tapeHasTokens", desc := "(I)Z" } : Jvm.MethodName) prog_1_method_49_code (3 : Nat) (Option.some Jvm.ClassFile.FieldType.boolean)) ∈ BIG := big_mem 617 (by decide +kernel) rfl
theorem w_1ccc3aa7 : (Jvm.Cond.methodLink "VerseCommitteeModel" (521 : Nat) ({ cls := "VerseCommitteeModel", name := "prices", desc := "()V" } : Jvm.MethodName)) ∈ BIG := big_mem 2297 (by decide +kernel) rfl
theorem w_1cd847e1 : (Jvm.Cond.methodLink "VerseCommittee$Reckoner" (37 : Nat) ({ cls := "VerseCommittee$Verses", name := "bookOf", desc := "(I)I" } : Jvm.MethodName)) ∈ BIG := big_mem 846 (by decide +kernel) rfl
theorem w_1ceaa91d : (Jvm.Cond.methodLink "VerseCommitteeModel" (518 : Nat) ({ cls := "VerseCommitteeModel", name := "isChoice", desc := "(I)Z" } : Jvm.MethodName)) ∈ BIG := big_mem 2290 (by decide +kernel) rfl
theorem w_1cedac62 : (Jvm.Cond.selects "VerseCommittee$Verses" ({ cls := "VerseCommittee$Verses", name := "measureOf", desc := "(I)I" } : Jvm.MethodName) ({ cls := "VerseCommittee$Verses", name := "measureOf", desc := "(I)I" } : Jvm.MethodName)) ∈ BIG := big_mem 852 (by decide +kernel) rfl
theorem w_1cf1321f : (Jvm.Cond.instanceMethod ({ cls := "VerseCommitteeModel", name := "piece", desc := "()V" } : Jvm.MethodName)) ∈ BIG := big_mem 2053 (by decide +kernel) rfl
theorem w_1cf6127c : (Jvm.Cond.methodLink "VerseCommittee" (174 : Nat) ({ cls := "VerseCommittee$Parser", name := "clausesRead", desc := "()I" } : Jvm.MethodName)) ∈ BIG := big_mem 822 (by decide +kernel) rfl
theorem w_1d316e2d : (Jvm.Cond.fieldLink "VerseCommittee$Findings" (67 : Nat) "VerseCommittee$Findings" "heldSize" "I") ∈ BIG := big_mem 415 (by decide +kernel) rfl
theorem w_1d8cd083 : (Jvm.Cond.initialized "VerseCommittee$Laws") ∈ BIG := big_mem 153 (by decide +kernel) rfl
theorem w_1de4bfd3 : (Jvm.Cond.selects "VerseCommittee" ({ cls := "VerseCommittee", name := "source", desc := "(III)Z" } : Jvm.MethodName) ({ cls := "VerseCommittee", name := "source", desc := "(III)Z" } : Jvm.MethodName)) ∈ BIG := big_mem 601 (by decide +kernel) rfl
theorem w_1e1561fa : (Jvm.Cond.fieldLink "VerseCommitteeModel" (102 : Nat) "VerseCommitteeModel" "rowB" "[I") ∈ BIG := big_mem 1672 (by decide +kernel) rfl
theorem w_1e6153b5 : (Jvm.Cond.methodLink "VerseCommittee$Reckoner" (82 : Nat) ({ cls := "VerseCommittee$Reckoner", name := "lastInForce", desc := "(II)I" } : Jvm.MethodName)) ∈ BIG := big_mem 874 (by decide +kernel) rfl
theorem w_1e8979d4 : (Jvm.Cond.code ({ cls := "VerseCommittee$Words", name := "has", desc := "(I)Z" } : Jvm.MethodName) prog_12_method_3_code (2 : Nat) (Option.some Jvm.ClassFile.FieldType.boolean)) ∈ BIG := big_mem 661 (by decide +kernel) rfl
theorem w_1eff1062 : (Jvm.Cond.code ({ cls := "VerseCommitteeModel", name := "reads", desc := "(IIIZ)Z" } : Jvm.MethodName) prog_14_method_109_code (5 : Nat) (Option.some Jvm.ClassFile.FieldType.boolean)) ∈ BIG := big_mem 2332 (by decide +kernel) rfl
theorem w_1f20460e : (Jvm.Cond.selects "VerseCommitteeModel" ({ cls := "VerseCommitteeModel", name := "line", desc := "(I)I" } : Jvm.MethodName) ({ cls := "VerseCommitteeModel", name := "line", desc := "(I)I" } : Jvm.MethodName)) ∈ BIG := big_mem 2323 (by decide +kernel) rfl
theorem w_1f365742 : (Jvm.Cond.code ({ cls := "VerseCommittee", name := "holds", desc := "(IIII)I" } : Jvm.MethodName) prog_1_method_13_code (5 : Nat) (Option.some Jvm.ClassFile.FieldType.int)) ∈ BIG := big_mem 833 (by decide +kernel) rfl
theorem w_1f3a82c8 : (Jvm.Cond.instanceMethod ({ cls := "VerseCommitteeModel", name := "fixedVerse", desc := "(I)I" } : Jvm.MethodName)) ∈ BIG := big_mem 2385 (by decide +kernel) rfl
theorem w_1f6e4b59 : (Jvm.Cond.selects "VerseCommitteeModel" ({ cls := "VerseCommitteeModel", name := "quarrelsOf", desc := "(II)I" } : Jvm.MethodName) ({ cls := "VerseCommitteeModel", name := "quarrelsOf", desc := "(II)I" } : Jvm.MethodName)) ∈ BIG := big_mem 126 (by decide +kernel) rfl
theorem w_1faa361a : (Jvm.Cond.methodLink "VerseCommittee$Choices" (156 : Nat) ({ cls := "VerseCommittee$Laws", name := "value", desc := "(I)I" } : Jvm.MethodName)) ∈ BIG := big_mem 1403 (by decide +kernel) rfl
theorem w_1fe841be : (Jvm.Cond.instanceMethod ({ cls := "VerseCommittee$Words", name := "letterIn", desc := "(III)I" } : Jvm.MethodName)) ∈ BIG := big_mem 1502 (by decide +kernel) rfl
theorem w_1ff14ff1 : (Jvm.Cond.instanceMethod ({ cls := "VerseCommittee$Rendering", name := "tokenRow", desc := "()[I" } : Jvm.MethodName)) ∈ BIG := big_mem 1226 (by decide +kernel) rfl
theorem w_1ffbafa7 : (Jvm.Cond.methodLink "VerseCommittee" (354 : Nat) ({ cls := "VerseCommittee$Rendering", name := "slots", desc := "()I" } : Jvm.MethodName)) ∈ BIG := big_mem 1452 (by decide +kernel) rfl
theorem w_20087361 : (Jvm.Cond.instanceMethod ({ cls := "VerseCommitteeModel", name := "isOpen", desc := "(I)Z" } : Jvm.MethodName)) ∈ BIG := big_mem 2168 (by decide +kernel) rfl
theorem w_202a9f26 : (Jvm.Cond.selects "VerseCommitteeModel" ({ cls := "VerseCommitteeModel", name := "cost", desc := "(I)I" } : Jvm.MethodName) ({ cls := "VerseCommitteeModel", name := "cost", desc := "(I)I" } : Jvm.MethodName)) ∈ BIG := big_mem 2288 (by decide +kernel) rfl
theorem w_202e6af0 : (Jvm.Cond.code ({ cls := "VerseCommittee$Reckoner", name := "aim", desc := "(II)V" } : Jvm.MethodName) prog_8_method_2_code (4 : Nat) (Option.none : Option Jvm.ClassFile.FieldType)) ∈ BIG := big_mem 845 (by decide +kernel) rfl
theorem w_2030092a : (Jvm.Cond.code ({ cls := "VerseCommittee", name := "tapeHas", desc := "(II)Z" } : Jvm.MethodName) prog_1_method_48_code (3 : Nat) (Option.some Jvm.ClassFile.FieldType.boolean)) ∈ BIG := big_mem 613 (by decide +kernel) rfl
theorem w_20938a50 : (Jvm.Cond.code ({ cls := "VerseCommittee$Rendering", name := "goBack", desc := "(I)V" } : Jvm.MethodName) prog_9_method_19_code (2 : Nat) (Option.none : Option Jvm.ClassFile.FieldType)) ∈ BIG := big_mem 1199 (by decide +kernel) rfl
theorem w_20e5875a : (Jvm.Cond.code ({ cls := "VerseCommittee$Findings", name := "seekSecond", desc := "(III)Z" } : Jvm.MethodName) prog_3_method_6_code (6 : Nat) (Option.some Jvm.ClassFile.FieldType.boolean)) ∈ BIG := big_mem 1288 (by decide +kernel) rfl
theorem w_2113d9a9 : (Jvm.Cond.initialized "VerseCommittee$People") ∈ BIG := big_mem 152 (by decide +kernel) rfl
theorem w_211f589d : (Jvm.Cond.fieldLink "VerseCommitteeModel" (51 : Nat) "VerseCommitteeModel" "ownMany" "[I") ∈ BIG := big_mem 1646 (by decide +kernel) rfl
theorem w_2122157d : (Jvm.Cond.code ({ cls := "VerseCommittee$Rendering", name := "isTurnedByOnly", desc := "(II)Z" } : Jvm.MethodName) prog_9_method_22_code (5 : Nat) (Option.some Jvm.ClassFile.FieldType.boolean)) ∈ BIG := big_mem 1254 (by decide +kernel) rfl
theorem w_2182bdbf : (Jvm.Cond.code ({ cls := "VerseCommittee$Words", name := "isVowel", desc := "(I)Z" } : Jvm.MethodName) prog_12_method_9_code (1 : Nat) (Option.some Jvm.ClassFile.FieldType.boolean)) ∈ BIG := big_mem 678 (by decide +kernel) rfl
theorem w_218e062c : (Jvm.Cond.selects "VerseCommittee$People" ({ cls := "VerseCommittee$People", name := "makeVoid", desc := "(I)V" } : Jvm.MethodName) ({ cls := "VerseCommittee$People", name := "makeVoid", desc := "(I)V" } : Jvm.MethodName)) ∈ BIG := big_mem 1181 (by decide +kernel) rfl
theorem w_21a5ebbb : (Jvm.Cond.methodLink "VerseCommittee$Planner" (81 : Nat) ({ cls := "VerseCommittee$Verses", name := "bookOf", desc := "(I)I" } : Jvm.MethodName)) ∈ BIG := big_mem 1519 (by decide +kernel) rfl
theorem w_21d05fb2 : (Jvm.Cond.code ({ cls := "VerseCommittee$Verses", name := "size", desc := "()I" } : Jvm.MethodName) prog_11_method_2_code (1 : Nat) (Option.some Jvm.ClassFile.FieldType.int)) ∈ BIG := big_mem 1300 (by decide +kernel) rfl
theorem w_21eb59bd : (Jvm.Cond.selects "VerseCommittee$Laws" ({ cls := "VerseCommittee$Laws", name := "start", desc := "(I)I" } : Jvm.MethodName) ({ cls := "VerseCommittee$Laws", name := "start", desc := "(I)I" } : Jvm.MethodName)) ∈ BIG := big_mem 911 (by decide +kernel) rfl
theorem w_223a3c49 : (Jvm.Cond.fieldLink "VerseCommittee$Planner" (26 : Nat) "VerseCommittee$Planner" "best" "[I") ∈ BIG := big_mem 509 (by decide +kernel) rfl
theorem w_223d880a : (Jvm.Cond.selects "VerseCommittee$Laws" ({ cls := "VerseCommittee$Laws", name := "putMeaning", desc := "(IIII)V" } : Jvm.MethodName) ({ cls := "VerseCommittee$Laws", name := "putMeaning", desc := "(IIII)V" } : Jvm.MethodName)) ∈ BIG := big_mem 748 (by decide +kernel) rfl
theorem w_22608dc3 : (Jvm.Cond.instanceMethod ({ cls := "VerseCommittee$Findings", name := "gatherHeld", desc := "(II[I)V" } : Jvm.MethodName)) ∈ BIG := big_mem 1232 (by decide +kernel) rfl
theorem w_226391b4 : (Jvm.Cond.initialized "java/lang/Math") ∈ BIG := big_mem 161 (by decide +kernel) rfl
theorem w_228bb200 : (Jvm.Cond.code ({ cls := "VerseCommittee$People", name := "<init>", desc := "()V" } : Jvm.MethodName) prog_6_method_1_code (1 : Nat) (Option.none : Option Jvm.ClassFile.FieldType)) ∈ BIG := big_mem 221 (by decide +kernel) rfl
theorem w_22a7dd5c : (Jvm.Cond.selects "VerseCommitteeModel" ({ cls := "VerseCommitteeModel", name := "plan", desc := "(I)I" } : Jvm.MethodName) ({ cls := "VerseCommitteeModel", name := "plan", desc := "(I)I" } : Jvm.MethodName)) ∈ BIG := big_mem 2354 (by decide +kernel) rfl
theorem w_22b9501b : (Jvm.Cond.methodLink "VerseCommitteeModel" (415 : Nat) ({ cls := "VerseCommitteeModel", name := "worth", desc := "(III)I" } : Jvm.MethodName)) ∈ BIG := big_mem 2135 (by decide +kernel) rfl
theorem w_22b9d36c : (Jvm.Cond.methodLink "VerseCommitteeModel" (214 : Nat) ({ cls := "VerseCommitteeModel", name := "lies", desc := "(III)Z" } : Jvm.MethodName)) ∈ BIG := big_mem 1917 (by decide +kernel) rfl
theorem w_22bae474 : (Jvm.Cond.methodLink "VerseCommittee$Findings" (90 : Nat) ({ cls := "VerseCommittee$Reckoner", name := "firstCopy", desc := "()I" } : Jvm.MethodName)) ∈ BIG := big_mem 1283 (by decide +kernel) rfl
theorem w_22c06b4f : (Jvm.Cond.methodLink "VerseCommittee" (305 : Nat) ({ cls := "VerseCommittee$Findings", name := "seekQuarrel", desc := "(III)Z" } : Jvm.MethodName)) ∈ BIG := big_mem 1279 (by decide +kernel) rfl
theorem w_22f841cf : (Jvm.Cond.code ({ cls := "VerseCommittee$Choices", name := "addPrices", desc := "(LVerseCommittee$Rendering;)V" } : Jvm.MethodName) prog_2_method_17_code (7 : Nat) (Option.none : Option Jvm.ClassFile.FieldType)) ∈ BIG := big_mem 1382 (by decide +kernel) rfl
theorem w_230ad3d0 : (Jvm.Cond.methodLink "VerseCommittee" (398 : Nat) ({ cls := "VerseCommittee$Shelf", name := "inState", desc := "(I)I" } : Jvm.MethodName)) ∈ BIG := big_mem 1614 (by decide +kernel) rfl
theorem w_237bbdc9 : (Jvm.Cond.methodLink "VerseCommittee" (257 : Nat) ({ cls := "VerseCommittee$Rendering", name := "stage", desc := "()I" } : Jvm.MethodName)) ∈ BIG := big_mem 1101 (by decide +kernel) rfl
theorem w_238b9c84 : (Jvm.Cond.methodLink "VerseCommittee$Parser" (75 : Nat) ({ cls := "VerseCommittee$Parser", name := "readRest", desc := "(I)Z" } : Jvm.MethodName)) ∈ BIG := big_mem 814 (by decide +kernel) rfl
theorem w_23b84e28 : (Jvm.Cond.fieldLink "VerseCommittee$Rendering" (28 : Nat) "VerseCommittee$Rendering" "cast" "[I") ∈ BIG := big_mem 1037 (by decide +kernel) rfl
theorem w_23ca30a1 : (Jvm.Cond.selects "VerseCommittee$Shelf" ({ cls := "VerseCommittee$Shelf", name := "at", desc := "(I)LVerseCommittee$Rendering;" } : Jvm.MethodName) ({ cls := "VerseCommittee$Shelf", name := "at", desc := "(I)LVerseCommittee$Rendering;" } : Jvm.MethodName)) ∈ BIG := big_mem 1086 (by decide +kernel) rfl
theorem w_23cc893c : (Jvm.Cond.static ({ cls := "VerseCommitteeModel", name := "isTimes", desc := "(I)Z" } : Jvm.MethodName)) ∈ BIG := big_mem 2071 (by decide +kernel) rfl
theorem w_2408f508 : (Jvm.Cond.selects "VerseCommittee$Rendering" ({ cls := "VerseCommittee$Rendering", name := "standsWithout", desc := "(II)Z" } : Jvm.MethodName) ({ cls := "VerseCommittee$Rendering", name := "standsWithout", desc := "(II)Z" } : Jvm.MethodName)) ∈ BIG := big_mem 41 (by decide +kernel) rfl
theorem w_242a56b2 : (Jvm.Cond.code ({ cls := "VerseCommitteeModel", name := "costOf", desc := "(I)I" } : Jvm.MethodName) prog_14_method_103_code (4 : Nat) (Option.some Jvm.ClassFile.FieldType.int)) ∈ BIG := big_mem 2312 (by decide +kernel) rfl
theorem w_243f80ca : (Jvm.Cond.methodLink "VerseCommittee$Planner" (60 : Nat) ({ cls := "VerseCommittee$Planner", name := "mayHave", desc := "(II)Z" } : Jvm.MethodName)) ∈ BIG := big_mem 1541 (by decide +kernel) rfl
theorem w_24701e27 : (Jvm.Cond.selects "VerseCommitteeModel" ({ cls := "VerseCommitteeModel", name := "tokensOf", desc := "(II)I" } : Jvm.MethodName) ({ cls := "VerseCommitteeModel", name := "tokensOf", desc := "(II)I" } : Jvm.MethodName)) ∈ BIG := big_mem 109 (by decide +kernel) rfl
theorem w_249a1c6c : (Jvm.Cond.instanceMethod ({ cls := "VerseCommitteeModel", name := "voids", desc := "(I)I" } : Jvm.MethodName)) ∈ BIG := big_mem 2191 (by decide +kernel) rfl
theorem w_24b8e395 : (Jvm.Cond.methodLink "VerseCommittee$Reckoner" (89 : Nat) ({ cls := "VerseCommittee$Laws", name := "start", desc := "(I)I" } : Jvm.MethodName)) ∈ BIG := big_mem 909 (by decide +kernel) rfl
theorem w_24fbca9b : (Jvm.Cond.instanceMethod ({ cls := "VerseCommittee$People", name := "isVoid", desc := "(I)Z" } : Jvm.MethodName)) ∈ BIG := big_mem 1010 (by decide +kernel) rfl
theorem w_2512803d : (Jvm.Cond.instanceMethod ({ cls := "VerseCommitteeModel", name := "daysBy", desc := "(I)I" } : Jvm.MethodName)) ∈ BIG := big_mem 2370 (by decide +kernel) rfl
theorem w_252931f7 : (Jvm.Cond.selects "VerseCommittee$Laws" ({ cls := "VerseCommittee$Laws", name := "speaksOf", desc := "(II)Z" } : Jvm.MethodName) ({ cls := "VerseCommittee$Laws", name := "speaksOf", desc := "(II)Z" } : Jvm.MethodName)) ∈ BIG := big_mem 1246 (by decide +kernel) rfl
theorem w_25326926 : (Jvm.Cond.methodLink "VerseCommittee" (413 : Nat) ({ cls := "VerseCommittee$Rendering", name := "wordRow", desc := "()[I" } : Jvm.MethodName)) ∈ BIG := big_mem 1480 (by decide +kernel) rfl
theorem w_2536ff7d : (Jvm.Cond.methodLink "VerseCommittee$Reckoner" (121 : Nat) ({ cls := "VerseCommittee$Laws", name := "clauseOf", desc := "(II)I" } : Jvm.MethodName)) ∈ BIG := big_mem 883 (by decide +kernel) rfl
theorem w_25389bc1 : (Jvm.Cond.methodLink "VerseCommittee$Planner" (49 : Nat) ({ cls := "VerseCommittee$Planner", name := "daysOfCentre", desc := "()I" } : Jvm.MethodName)) ∈ BIG := big_mem 1522 (by decide +kernel) rfl
theorem w_25557e47 : (Jvm.Cond.instanceMethod ({ cls := "VerseCommitteeModel", name := "goesBack", desc := "(II)I" } : Jvm.MethodName)) ∈ BIG := big_mem 2196 (by decide +kernel) rfl
theorem w_257efaef : (Jvm.Cond.code ({ cls := "VerseCommittee", name := "scholar", desc := "(IZ)I" } : Jvm.MethodName) prog_1_method_11_code (3 : Nat) (Option.some Jvm.ClassFile.FieldType.int)) ∈ BIG := big_mem 704 (by decide +kernel) rfl
theorem w_25873177 : (Jvm.Cond.methodLink "VerseCommittee$Reckoner" (137 : Nat) ({ cls := "VerseCommittee$Reckoner", name := "reckonPiece", desc := "(ZI)Z" } : Jvm.MethodName)) ∈ BIG := big_mem 929 (by decide +kernel) rfl
theorem w_25cab497 : (Jvm.Cond.selects "VerseCommittee$Verses" ({ cls := "VerseCommittee$Verses", name := "rowOf", desc := "(II)[I" } : Jvm.MethodName) ({ cls := "VerseCommittee$Verses", name := "rowOf", desc := "(II)[I" } : Jvm.MethodName)) ∈ BIG := big_mem 901 (by decide +kernel) rfl
theorem w_25f04b00 : (Jvm.Cond.methodLink "VerseCommittee$Choices" (96 : Nat) ({ cls := "VerseCommittee$Shelf", name := "fixedAt", desc := "(I)LVerseCommittee$Rendering;" } : Jvm.MethodName)) ∈ BIG := big_mem 1378 (by decide +kernel) rfl
theorem w_26129d30 : (Jvm.Cond.fieldLink "VerseCommittee$Planner" (11 : Nat) "VerseCommittee$Planner" "open" "[I") ∈ BIG := big_mem 505 (by decide +kernel) rfl
theorem w_2632cf99 : (Jvm.Cond.fieldLink "VerseCommittee" (33 : Nat) "VerseCommittee" "people" "LVerseCommittee$People;") ∈ BIG := big_mem 537 (by decide +kernel) rfl
theorem w_26699c3c : (Jvm.Cond.methodLink "VerseCommittee$Reckoner" (131 : Nat) ({ cls := "VerseCommittee$Reckoner", name := "reckonPart", desc := "(ZI)Z" } : Jvm.MethodName)) ∈ BIG := big_mem 925 (by decide +kernel) rfl
theorem w_26706623 : (Jvm.Cond.methodLink "VerseCommitteeModel" (326 : Nat) ({ cls := "VerseCommitteeModel", name := "isValue", desc := "(I)Z" } : Jvm.MethodName)) ∈ BIG := big_mem 2063 (by decide +kernel) rfl
theorem w_26956ba5 : (Jvm.Cond.methodLink "VerseCommitteeModel" (297 : Nat) ({ cls := "VerseCommitteeModel", name := "here", desc := "()I" } : Jvm.MethodName)) ∈ BIG := big_mem 2007 (by decide +kernel) rfl
theorem w_27057df7 : (Jvm.Cond.methodLink "VerseCommitteeModel" (231 : Nat) ({ cls := "VerseCommitteeModel", name := "isVerse", desc := "(I)Z" } : Jvm.MethodName)) ∈ BIG := big_mem 1936 (by decide +kernel) rfl
theorem w_2722afdd : (Jvm.Cond.fieldLink "VerseCommitteeModel" (162 : Nat) "VerseCommitteeModel" "tVerse" "[I") ∈ BIG := big_mem 1693 (by decide +kernel) rfl
theorem w_2726535e : (Jvm.Cond.instanceMethod ({ cls := "VerseCommittee$Reckoner", name := "sign", desc := "()I" } : Jvm.MethodName)) ∈ BIG := big_mem 935 (by decide +kernel) rfl
theorem w_27908d2c : (Jvm.Cond.code ({ cls := "VerseCommitteeModel", name := "feed", desc := "(IIIII)I" } : Jvm.MethodName) prog_14_method_9_code (6 : Nat) (Option.some Jvm.ClassFile.FieldType.int)) ∈ BIG := big_mem 1923 (by decide +kernel) rfl
theorem w_2794eb38 : (Jvm.Cond.selects "VerseCommittee$Parser" ({ cls := "VerseCommittee$Parser", name := "readOpening", desc := "(I)Z" } : Jvm.MethodName) ({ cls := "VerseCommittee$Parser", name := "readOpening", desc := "(I)Z" } : Jvm.MethodName)) ∈ BIG := big_mem 17 (by decide +kernel) rfl
theorem w_27d8a9f3 : (Jvm.Cond.instanceMethod ({ cls := "VerseCommittee$Choices", name := "barOthers", desc := "(II)V" } : Jvm.MethodName)) ∈ BIG := big_mem 1406 (by decide +kernel) rfl
theorem w_27f4aed0 : (Jvm.Cond.selects "VerseCommittee" ({ cls := "VerseCommittee", name := "now", desc := "(I)Z" } : Jvm.MethodName) ({ cls := "VerseCommittee", name := "now", desc := "(I)Z" } : Jvm.MethodName)) ∈ BIG := big_mem 578 (by decide +kernel) rfl
theorem w_2878a860 : (Jvm.Cond.code ({ cls := "VerseCommitteeModel", name := "factor", desc := "()V" } : Jvm.MethodName) prog_14_method_43_code (1 : Nat) (Option.none : Option Jvm.ClassFile.FieldType)) ∈ BIG := big_mem 2058 (by decide +kernel) rfl
theorem w_28b5f134 : (Jvm.Cond.instanceMethod ({ cls := "VerseCommittee$Words", name := "<init>", desc := "()V" } : Jvm.MethodName)) ∈ BIG := big_mem 175 (by decide +kernel) rfl
theorem w_29074c8d : (Jvm.Cond.selects "VerseCommitteeModel" ({ cls := "VerseCommitteeModel", name := "count", desc := "(I)I" } : Jvm.MethodName) ({ cls := "VerseCommitteeModel", name := "count", desc := "(I)I" } : Jvm.MethodName)) ∈ BIG := big_mem 2397 (by decide +kernel) rfl
theorem w_29118fee : (Jvm.Cond.selects "VerseCommittee$Findings" ({ cls := "VerseCommittee$Findings", name := "addPlaces", desc := "(I[I)V" } : Jvm.MethodName) ({ cls := "VerseCommittee$Findings", name := "addPlaces", desc := "(I[I)V" } : Jvm.MethodName)) ∈ BIG := big_mem 47 (by decide +kernel) rfl
theorem w_29196199 : (Jvm.Cond.code ({ cls := "VerseCommittee$Rendering", name := "wordRow", desc := "()[I" } : Jvm.MethodName) prog_9_method_6_code (1 : Nat) (Option.some (Jvm.ClassFile.FieldType.array Jvm.ClassFile.FieldType.int))) ∈ BIG := big_mem 1483 (by decide +kernel) rfl
theorem w_2946730c : (Jvm.Cond.fieldLink "VerseCommittee" (40 : Nat) "VerseCommittee" "laws" "LVerseCommittee$Laws;") ∈ BIG := big_mem 538 (by decide +kernel) rfl
theorem w_2968f610 : (Jvm.Cond.fieldLink "VerseCommitteeModel" (96 : Nat) "VerseCommitteeModel" "isRefused" "[Z") ∈ BIG := big_mem 1670 (by decide +kernel) rfl
theorem w_2978b51a : (Jvm.Cond.instanceMethod ({ cls := "VerseCommitteeModel", name := "costOf", desc := "(I)I" } : Jvm.MethodName)) ∈ BIG := big_mem 2311 (by decide +kernel) rfl
theorem w_298790b5 : (Jvm.Cond.instanceMethod ({ cls := "VerseCommitteeModel", name := "fails", desc := "(II)V" } : Jvm.MethodName)) ∈ BIG := big_mem 2013 (by decide +kernel) rfl
theorem w_2987c117 : (Jvm.Cond.selects "VerseCommittee" ({ cls := "VerseCommittee", name := "isPastDay", desc := "(I)Z" } : Jvm.MethodName) ({ cls := "VerseCommittee", name := "isPastDay", desc := "(I)Z" } : Jvm.MethodName)) ∈ BIG := big_mem 42 (by decide +kernel) rfl
theorem w_299f1a18 : (Jvm.Cond.instanceMethod ({ cls := "VerseCommittee$People", name := "hasCompany", desc := "(I)Z" } : Jvm.MethodName)) ∈ BIG := big_mem 706 (by decide +kernel) rfl
theorem w_29bf730b : (Jvm.Cond.methodLink "VerseCommitteeModel" (533 : Nat) ({ cls := "VerseCommitteeModel", name := "isOff", desc := "(I)Z" } : Jvm.MethodName)) ∈ BIG := big_mem 2325 (by decide +kernel) rfl
theorem w_29fe991c : (Jvm.Cond.fieldLink "VerseCommitteeModel" (23 : Nat) "VerseCommitteeModel" "token" "[I") ∈ BIG := big_mem 1637 (by decide +kernel) rfl
theorem w_2a2ce44f : (Jvm.Cond.code ({ cls := "VerseCommitteeModel", name := "lastOf", desc := "(IIII)I" } : Jvm.MethodName) prog_14_method_53_code (7 : Nat) (Option.some Jvm.ClassFile.FieldType.int)) ∈ BIG := big_mem 2110 (by decide +kernel) rfl
theorem w_2a2dd35a : (Jvm.Cond.fieldLink "VerseCommittee$Planner" (33 : Nat) "VerseCommittee$Planner" "people" "LVerseCommittee$People;") ∈ BIG := big_mem 503 (by decide +kernel) rfl
theorem w_2a7a438e : (Jvm.Cond.methodLink "VerseCommitteeModel" (515 : Nat) ({ cls := "VerseCommitteeModel", name := "digit", desc := "(III)I" } : Jvm.MethodName)) ∈ BIG := big_mem 2294 (by decide +kernel) rfl
theorem w_2a92b72e : (Jvm.Cond.code ({ cls := "VerseCommittee$Parser", name := "readCondition", desc := "(I)Z" } : Jvm.MethodName) prog_5_method_15_code (4 : Nat) (Option.some Jvm.ClassFile.FieldType.boolean)) ∈ BIG := big_mem 772 (by decide +kernel) rfl
theorem w_2aa8a417 : (Jvm.Cond.instanceMethod ({ cls := "VerseCommitteeModel", name := "isUnlike", desc := "(IIII)Z" } : Jvm.MethodName)) ∈ BIG := big_mem 2260 (by decide +kernel) rfl
theorem w_2ab2cdeb : (Jvm.Cond.code ({ cls := "VerseCommittee$Laws", name := "clauseOf", desc := "(II)I" } : Jvm.MethodName) prog_4_method_4_code (2 : Nat) (Option.some Jvm.ClassFile.FieldType.int)) ∈ BIG := big_mem 745 (by decide +kernel) rfl
theorem w_2abee056 : (Jvm.Cond.code ({ cls := "VerseCommittee", name := "wordsFixedThen", desc := "(II)[I" } : Jvm.MethodName) prog_1_method_54_code (4 : Nat) (Option.some (Jvm.ClassFile.FieldType.array Jvm.ClassFile.FieldType.int))) ∈ BIG := big_mem 1478 (by decide +kernel) rfl
theorem w_2ac7d7aa : (Jvm.Cond.selects "VerseCommitteeModel" ({ cls := "VerseCommitteeModel", name := "isOfStage", desc := "(III)Z" } : Jvm.MethodName) ({ cls := "VerseCommitteeModel", name := "isOfStage", desc := "(III)Z" } : Jvm.MethodName)) ∈ BIG := big_mem 116 (by decide +kernel) rfl
theorem w_2b127ce9 : (Jvm.Cond.fieldLink "VerseCommittee$Findings" (17 : Nat) "VerseCommittee$Findings" "held" "[I") ∈ BIG := big_mem 410 (by decide +kernel) rfl
theorem w_2b333808 : (Jvm.Cond.selects "VerseCommittee$Choices" ({ cls := "VerseCommittee$Choices", name := "enter", desc := "(II)Z" } : Jvm.MethodName) ({ cls := "VerseCommittee$Choices", name := "enter", desc := "(II)Z" } : Jvm.MethodName)) ∈ BIG := big_mem 1343 (by decide +kernel) rfl
theorem w_2b5676f4 : (Jvm.Cond.selects "VerseCommitteeModel" ({ cls := "VerseCommitteeModel", name := "voids", desc := "(I)I" } : Jvm.MethodName) ({ cls := "VerseCommitteeModel", name := "voids", desc := "(I)I" } : Jvm.MethodName)) ∈ BIG := big_mem 2192 (by decide +kernel) rfl
theorem w_2bb31b09 : (Jvm.Cond.methodLink "VerseCommittee$Choices" (55 : Nat) ({ cls := "VerseCommittee$Choices", name := "placeOf", desc := "(I)I" } : Jvm.MethodName)) ∈ BIG := big_mem 1345 (by decide +kernel) rfl
theorem w_2bff17cb : (Jvm.Cond.selects "VerseCommitteeModel" ({ cls := "VerseCommitteeModel", name := "asks", desc := "(III)I" } : Jvm.MethodName) ({ cls := "VerseCommitteeModel", name := "asks", desc := "(III)I" } : Jvm.MethodName)) ∈ BIG := big_mem 2101 (by decide +kernel) rfl
theorem w_2c0a9690 : (Jvm.Cond.instanceMethod ({ cls := "VerseCommitteeModel", name := "seesDigit", desc := "()Z" } : Jvm.MethodName)) ∈ BIG := big_mem 2025 (by decide +kernel) rfl
theorem w_2c35a5b7 : (Jvm.Cond.selects "VerseCommittee$Choices" ({ cls := "VerseCommittee$Choices", name := "placeOf", desc := "(I)I" } : Jvm.MethodName) ({ cls := "VerseCommittee$Choices", name := "placeOf", desc := "(I)I" } : Jvm.MethodName)) ∈ BIG := big_mem 51 (by decide +kernel) rfl
theorem w_2c555b2f : (Jvm.Cond.methodLink "VerseCommittee" (366 : Nat) ({ cls := "VerseCommittee", name := "signOfAdded", desc := "(III)I" } : Jvm.MethodName)) ∈ BIG := big_mem 1497 (by decide +kernel) rfl
theorem w_2c6aadbe : (Jvm.Cond.instanceMethod ({ cls := "VerseCommittee$Words", name := "formIn", desc := "(II)I" } : Jvm.MethodName)) ∈ BIG := big_mem 1495 (by decide +kernel) rfl
theorem w_2cb1a62c : (Jvm.Cond.selects "VerseCommittee$Shelf" ({ cls := "VerseCommittee$Shelf", name := "fixedVerses", desc := "()I" } : Jvm.MethodName) ({ cls := "VerseCommittee$Shelf", name := "fixedVerses", desc := "()I" } : Jvm.MethodName)) ∈ BIG := big_mem 1612 (by decide +kernel) rfl
theorem w_2cb7055b : (Jvm.Cond.instanceMethod ({ cls := "VerseCommittee$Verses", name := "has", desc := "(I)Z" } : Jvm.MethodName)) ∈ BIG := big_mem 604 (by decide +kernel) rfl
theorem w_2cf0f38d : (Jvm.Cond.instanceMethod ({ cls := "VerseCommitteeModel", name := "readsNumber", desc := "(I)I" } : Jvm.MethodName)) ∈ BIG := big_mem 2021 (by decide +kernel) rfl
theorem w_2cfa9111 : (Jvm.Cond.fieldLink "VerseCommittee$Reckoner" (13 : Nat) "VerseCommittee$Reckoner" "text" "[I") ∈ BIG := big_mem 367 (by decide +kernel) rfl
theorem w_2d4811da : (Jvm.Cond.fieldLink "VerseCommittee" (74 : Nat) "VerseCommittee" "findings" "LVerseCommittee$Findings;") ∈ BIG := big_mem 542 (by decide +kernel) rfl
theorem w_2d56233c : (Jvm.Cond.methodLink "VerseCommittee" (143 : Nat) ({ cls := "VerseCommittee$Words", name := "vowelRows", desc := "(I)I" } : Jvm.MethodName)) ∈ BIG := big_mem 672 (by decide +kernel) rfl
theorem w_2d6bc367 : (Jvm.Cond.fieldLink "VerseCommittee$Findings" (37 : Nat) "VerseCommittee$Findings" "verses" "LVerseCommittee$Verses;") ∈ BIG := big_mem 406 (by decide +kernel) rfl
theorem w_2d6ce486 : (Jvm.Cond.static ({ cls := "VerseCommitteeModel", name := "isSign", desc := "(I)Z" } : Jvm.MethodName)) ∈ BIG := big_mem 2085 (by decide +kernel) rfl
theorem w_2d82e366 : (Jvm.Cond.instanceMethod ({ cls := "VerseCommittee$Parser", name := "readComparison", desc := "()Z" } : Jvm.MethodName)) ∈ BIG := big_mem 804 (by decide +kernel) rfl
theorem w_2dca50cb : (Jvm.Cond.selects "VerseCommittee" ({ cls := "VerseCommittee", name := "apart", desc := "(II)Z" } : Jvm.MethodName) ({ cls := "VerseCommittee", name := "apart", desc := "(II)Z" } : Jvm.MethodName)) ∈ BIG := big_mem 1355 (by decide +kernel) rfl
theorem w_2e12d08c : (Jvm.Cond.initialized "VerseCommitteeModel") ∈ BIG := big_mem 160 (by decide +kernel) rfl
theorem w_2e1985d3 : (Jvm.Cond.selects "VerseCommitteeModel" ({ cls := "VerseCommitteeModel", name := "missed", desc := "(I)I" } : Jvm.MethodName) ({ cls := "VerseCommitteeModel", name := "missed", desc := "(I)I" } : Jvm.MethodName)) ∈ BIG := big_mem 2335 (by decide +kernel) rfl
theorem w_2e5964a7 : (Jvm.Cond.instanceMethod ({ cls := "VerseCommittee$Reckoner", name := "aim", desc := "(II)V" } : Jvm.MethodName)) ∈ BIG := big_mem 843 (by decide +kernel) rfl
theorem w_2e86ea73 : (Jvm.Cond.code ({ cls := "VerseCommittee", name := "feed", desc := "(IIIII)I" } : Jvm.MethodName) prog_1_method_3_code (6 : Nat) (Option.some Jvm.ClassFile.FieldType.int)) ∈ BIG := big_mem 586 (by decide +kernel) rfl
theorem w_2ea5aef0 : (Jvm.Cond.selects "VerseCommitteeModel" ({ cls := "VerseCommitteeModel", name := "goesWithout", desc := "(II)Z" } : Jvm.MethodName) ({ cls := "VerseCommitteeModel", name := "goesWithout", desc := "(II)Z" } : Jvm.MethodName)) ∈ BIG := big_mem 120 (by decide +kernel) rfl
theorem w_2ea61305 : (Jvm.Cond.methodLink "VerseCommitteeModel" (403 : Nat) ({ cls := "VerseCommitteeModel", name := "tokensOf", desc := "(II)I" } : Jvm.MethodName)) ∈ BIG := big_mem 2127 (by decide +kernel) rfl
theorem w_2ed11c39 : (Jvm.Cond.instanceMethod ({ cls := "VerseCommittee$Reckoner", name := "letterValue", desc := "(I)I" } : Jvm.MethodName)) ∈ BIG := big_mem 958 (by decide +kernel) rfl
theorem w_2eeeed47 : (Jvm.Cond.fieldLink "VerseCommittee$Rendering" (13 : Nat) "VerseCommittee$Rendering" "words" "[I") ∈ BIG := big_mem 1032 (by decide +kernel) rfl
theorem w_2efd3843 : (Jvm.Cond.selects "VerseCommittee$Planner" ({ cls := "VerseCommittee$Planner", name := "give", desc := "(II)V" } : Jvm.MethodName) ({ cls := "VerseCommittee$Planner", name := "give", desc := "(II)V" } : Jvm.MethodName)) ∈ BIG := big_mem 68 (by decide +kernel) rfl
theorem w_2f6499f1 : (Jvm.Cond.fieldLink "VerseCommittee$Reckoner" (18 : Nat) "VerseCommittee$Reckoner" "laws" "LVerseCommittee$Laws;") ∈ BIG := big_mem 356 (by decide +kernel) rfl
theorem w_2f9848a0 : (Jvm.Cond.selects "VerseCommittee$Rendering" ({ cls := "VerseCommittee$Rendering", name := "isTurnedByOnly", desc := "(II)Z" } : Jvm.MethodName) ({ cls := "VerseCommittee$Rendering", name := "isTurnedByOnly", desc := "(II)Z" } : Jvm.MethodName)) ∈ BIG := big_mem 1253 (by decide +kernel) rfl
theorem w_2ff0e632 : (Jvm.Cond.code ({ cls := "VerseCommitteeModel", name := "isVowel", desc := "(I)Z" } : Jvm.MethodName) prog_14_method_19_code (1 : Nat) (Option.some Jvm.ClassFile.FieldType.boolean)) ∈ BIG := big_mem 1978 (by decide +kernel) rfl
theorem w_3051d94a : (Jvm.Cond.instanceMethod ({ cls := "VerseCommittee$Words", name := "respell", desc := "(II[II)V" } : Jvm.MethodName)) ∈ BIG := big_mem 663 (by decide +kernel) rfl
theorem w_305ae2f2 : (Jvm.Cond.selects "VerseCommitteeModel" ({ cls := "VerseCommitteeModel", name := "fixed", desc := "(I)I" } : Jvm.MethodName) ({ cls := "VerseCommitteeModel", name := "fixed", desc := "(I)I" } : Jvm.MethodName)) ∈ BIG := big_mem 2208 (by decide +kernel) rfl
theorem w_30713f50 : (Jvm.Cond.methodLink "VerseCommittee$Choices" (116 : Nat) ({ cls := "VerseCommittee$Rendering", name := "slots", desc := "()I" } : Jvm.MethodName)) ∈ BIG := big_mem 1384 (by decide +kernel) rfl
theorem w_3075344d : (Jvm.Cond.selects "VerseCommitteeModel" ({ cls := "VerseCommitteeModel", name := "rows", desc := "()I" } : Jvm.MethodName) ({ cls := "VerseCommitteeModel", name := "rows", desc := "()I" } : Jvm.MethodName)) ∈ BIG := big_mem 144 (by decide +kernel) rfl
theorem w_308ab226 : (Jvm.Cond.methodLink "VerseCommittee$Parser" (111 : Nat) ({ cls := "VerseCommittee$Parser", name := "readFactor", desc := "(I)Z" } : Jvm.MethodName)) ∈ BIG := big_mem 793 (by decide +kernel) rfl
theorem w_3098d345 : (Jvm.Cond.methodLink "VerseCommittee" (87 : Nat) ({ cls := "VerseCommittee$Planner", name := "<init>", desc := "(LVerseCommittee$Verses;LVerseCommittee$People;LVerseCommittee$Shelf;)V" } : Jvm.MethodName)) ∈ BIG := big_mem 498 (by decide +kernel) rfl
theorem w_30d861f8 : (Jvm.Cond.methodLink "VerseCommitteeModel" (451 : Nat) ({ cls := "VerseCommitteeModel", name := "fixedAt", desc := "(II)I" } : Jvm.MethodName)) ∈ BIG := big_mem 2214 (by decide +kernel) rfl
theorem w_30f9eaff : (Jvm.Cond.fieldLink "VerseCommittee$Findings" (29 : Nat) "VerseCommittee$Findings" "alike" "[J") ∈ BIG := big_mem 414 (by decide +kernel) rfl
theorem w_311f6dbd : (Jvm.Cond.instanceMethod ({ cls := "VerseCommittee$Choices", name := "<init>", desc := "(LVerseCommittee$Laws;LVerseCommittee$Verses;LVerseCommittee$Reckoner;LVerseCommittee$Shelf;)V" } : Jvm.MethodName)) ∈ BIG := big_mem 449 (by decide +kernel) rfl
theorem w_312b4911 : (Jvm.Cond.methodLink "VerseCommittee$Words" (30 : Nat) ({ cls := "VerseCommittee$Words", name := "has", desc := "(I)Z" } : Jvm.MethodName)) ∈ BIG := big_mem 666 (by decide +kernel) rfl
theorem w_31843cb2 : (Jvm.Cond.instanceMethod ({ cls := "VerseCommittee$Choices", name := "part", desc := "(II)Z" } : Jvm.MethodName)) ∈ BIG := big_mem 1358 (by decide +kernel) rfl
theorem w_31860d73 : (Jvm.Cond.code ({ cls := "VerseCommittee$Parser", name := "readRanks", desc := "(I)Z" } : Jvm.MethodName) prog_5_method_11_code (6 : Nat) (Option.some Jvm.ClassFile.FieldType.boolean)) ∈ BIG := big_mem 809 (by decide +kernel) rfl
theorem w_31a845fd : (Jvm.Cond.methodLink "VerseCommittee" (417 : Nat) ({ cls := "java/lang/Math", name := "min", desc := "(II)I" } : Jvm.MethodName)) ∈ BIG := big_mem 1000 (by decide +kernel) rfl
theorem w_31e4d0dc : (Jvm.Cond.code ({ cls := "VerseCommittee", name := "votersOf", desc := "(LVerseCommittee$Rendering;)I" } : Jvm.MethodName) prog_1_method_52_code (3 : Nat) (Option.some Jvm.ClassFile.FieldType.int)) ∈ BIG := big_mem 1095 (by decide +kernel) rfl
theorem w_32199eb8 : (Jvm.Cond.instanceMethod ({ cls := "VerseCommittee$Parser", name := "readPart", desc := "(I)Z" } : Jvm.MethodName)) ∈ BIG := big_mem 775 (by decide +kernel) rfl
theorem w_3228a3b7 : (Jvm.Cond.code ({ cls := "VerseCommittee$Reckoner", name := "reckonPiece", desc := "(ZI)Z" } : Jvm.MethodName) prog_8_method_15_code (6 : Nat) (Option.some Jvm.ClassFile.FieldType.boolean)) ∈ BIG := big_mem 932 (by decide +kernel) rfl
theorem w_32313a4b : (Jvm.Cond.instanceMethod ({ cls := "VerseCommittee", name := "quarrel", desc := "(III)I" } : Jvm.MethodName)) ∈ BIG := big_mem 1276 (by decide +kernel) rfl
theorem w_32a61094 : (Jvm.Cond.fieldLink "VerseCommitteeModel" (221 : Nat) "VerseCommitteeModel" "now" "I") ∈ BIG := big_mem 1626 (by decide +kernel) rfl
theorem w_32b2fac3 : (Jvm.Cond.methodLink "VerseCommittee$Shelf" (3 : Nat) ({ cls := "java/lang/Object", name := "<init>", desc := "()V" } : Jvm.MethodName)) ∈ BIG := big_mem 294 (by decide +kernel) rfl
theorem w_32de5f87 : (Jvm.Cond.fieldLink "VerseCommitteeModel" (494 : Nat) "VerseCommitteeModel" "placeA" "I") ∈ BIG := big_mem 1701 (by decide +kernel) rfl
theorem w_32ff4e45 : (Jvm.Cond.selects "VerseCommitteeModel" ({ cls := "VerseCommitteeModel", name := "fails", desc := "(II)V" } : Jvm.MethodName) ({ cls := "VerseCommitteeModel", name := "fails", desc := "(II)V" } : Jvm.MethodName)) ∈ BIG := big_mem 85 (by decide +kernel) rfl
theorem w_330518b2 : (Jvm.Cond.code ({ cls := "VerseCommittee", name := "company", desc := "(II)I" } : Jvm.MethodName) prog_1_method_9_code (3 : Nat) (Option.some Jvm.ClassFile.FieldType.int)) ∈ BIG := big_mem 685 (by decide +kernel) rfl
theorem w_3358c02f : (Jvm.Cond.selects "VerseCommitteeModel" ({ cls := "VerseCommitteeModel", name := "wordOf", desc := "(III)I" } : Jvm.MethodName) ({ cls := "VerseCommitteeModel", name := "wordOf", desc := "(III)I" } : Jvm.MethodName)) ∈ BIG := big_mem 131 (by decide +kernel) rfl
theorem w_336f7434 : (Jvm.Cond.methodLink "VerseCommitteeModel" (409 : Nat) ({ cls := "VerseCommitteeModel", name := "does", desc := "(II)V" } : Jvm.MethodName)) ∈ BIG := big_mem 2139 (by decide +kernel) rfl
theorem w_3374384e : (Jvm.Cond.methodLink "VerseCommittee" (170 : Nat) ({ cls := "VerseCommittee$Laws", name := "putDays", desc := "(III)V" } : Jvm.MethodName)) ∈ BIG := big_mem 818 (by decide +kernel) rfl
theorem w_338a89b6 : (Jvm.Cond.code ({ cls := "VerseCommittee$Words", name := "<init>", desc := "()V" } : Jvm.MethodName) prog_12_method_1_code (1 : Nat) (Option.none : Option Jvm.ClassFile.FieldType)) ∈ BIG := big_mem 176 (by decide +kernel) rfl
theorem w_33982bb8 : (Jvm.Cond.instanceMethod ({ cls := "VerseCommitteeModel", name := "breach", desc := "(III)I" } : Jvm.MethodName)) ∈ BIG := big_mem 2235 (by decide +kernel) rfl
theorem w_33affdd0 : (Jvm.Cond.code ({ cls := "VerseCommitteeModel", name := "emit", desc := "(II)V" } : Jvm.MethodName) prog_14_method_29_code (3 : Nat) (Option.none : Option Jvm.ClassFile.FieldType)) ∈ BIG := big_mem 2062 (by decide +kernel) rfl
theorem w_33e41552 : (Jvm.Cond.methodLink "VerseCommittee" (167 : Nat) ({ cls := "VerseCommittee$Parser", name := "read", desc := "([II)I" } : Jvm.MethodName)) ∈ BIG := big_mem 722 (by decide +kernel) rfl
theorem w_33fc984a : (Jvm.Cond.code ({ cls := "VerseCommittee", name := "reads", desc := "(IIIZ)Z" } : Jvm.MethodName) prog_1_method_32_code (5 : Nat) (Option.some Jvm.ClassFile.FieldType.boolean)) ∈ BIG := big_mem 1457 (by decide +kernel) rfl
theorem w_342956a8 : (Jvm.Cond.selects "VerseCommittee" ({ cls := "VerseCommittee", name := "firstWrongByte", desc := "(I)I" } : Jvm.MethodName) ({ cls := "VerseCommittee", name := "firstWrongByte", desc := "(I)I" } : Jvm.MethodName)) ∈ BIG := big_mem 71 (by decide +kernel) rfl
theorem w_34509292 : (Jvm.Cond.static ({ cls := "VerseCommitteeModel", name := "sizeOf", desc := "(I)I" } : Jvm.MethodName)) ∈ BIG := big_mem 2338 (by decide +kernel) rfl
theorem w_345d23f0 : (Jvm.Cond.methodLink "VerseCommittee$Planner" (89 : Nat) ({ cls := "VerseCommittee$People", name := "centreRate", desc := "()I" } : Jvm.MethodName)) ∈ BIG := big_mem 1526 (by decide +kernel) rfl
theorem w_346b0db8 : (Jvm.Cond.code ({ cls := "VerseCommittee$Rendering", name := "tellSlot", desc := "(I)I" } : Jvm.MethodName) prog_9_method_27_code (2 : Nat) (Option.some Jvm.ClassFile.FieldType.int)) ∈ BIG := big_mem 1586 (by decide +kernel) rfl
theorem w_34965eac : (Jvm.Cond.selects "VerseCommittee$Rendering" ({ cls := "VerseCommittee$Rendering", name := "stage", desc := "()I" } : Jvm.MethodName) ({ cls := "VerseCommittee$Rendering", name := "stage", desc := "()I" } : Jvm.MethodName)) ∈ BIG := big_mem 1103 (by decide +kernel) rfl
theorem w_34d9f0fc : (Jvm.Cond.fieldLink "VerseCommittee$Laws" (26 : Nat) "VerseCommittee$Laws" "clauses" "[I") ∈ BIG := big_mem 259 (by decide +kernel) rfl
theorem w_350a7efc : (Jvm.Cond.methodLink "VerseCommitteeModel" (527 : Nat) ({ cls := "VerseCommitteeModel", name := "costOf", desc := "(I)I" } : Jvm.MethodName)) ∈ BIG := big_mem 2309 (by decide +kernel) rfl
theorem w_350b1354 : (Jvm.Cond.fieldLink "VerseCommittee$Planner" (57 : Nat) "VerseCommittee$Planner" "size" "I") ∈ BIG := big_mem 510 (by decide +kernel) rfl
theorem w_35184d15 : (Jvm.Cond.selects "VerseCommittee$Reckoner" ({ cls := "VerseCommittee$Reckoner", name := "aim", desc := "(II)V" } : Jvm.MethodName) ({ cls := "VerseCommittee$Reckoner", name := "aim", desc := "(II)V" } : Jvm.MethodName)) ∈ BIG := big_mem 844 (by decide +kernel) rfl
theorem w_35505286 : (Jvm.Cond.code ({ cls := "VerseCommitteeModel", name := "isVerse", desc := "(I)Z" } : Jvm.MethodName) prog_14_method_4_code (2 : Nat) (Option.some Jvm.ClassFile.FieldType.boolean)) ∈ BIG := big_mem 1939 (by decide +kernel) rfl
theorem w_35681c25 : (Jvm.Cond.instanceMethod ({ cls := "VerseCommittee$Verses", name := "missedBits", desc := "(I)I" } : Jvm.MethodName)) ∈ BIG := big_mem 1467 (by decide +kernel) rfl
theorem w_35754551 : (Jvm.Cond.code ({ cls := "VerseCommittee$Choices", name := "chooseOption", desc := "(III)V" } : Jvm.MethodName) prog_2_method_15_code (4 : Nat) (Option.none : Option Jvm.ClassFile.FieldType)) ∈ BIG := big_mem 1440 (by decide +kernel) rfl
theorem w_357bac27 : (Jvm.Cond.instanceMethod ({ cls := "VerseCommitteeModel", name := "quarrelsOf", desc := "(II)I" } : Jvm.MethodName)) ∈ BIG := big_mem 2244 (by decide +kernel) rfl
theorem w_358533c9 : (Jvm.Cond.code ({ cls := "VerseCommitteeModel", name := "count", desc := "(I)I" } : Jvm.MethodName) prog_14_method_126_code (4 : Nat) (Option.some Jvm.ClassFile.FieldType.int)) ∈ BIG := big_mem 2398 (by decide +kernel) rfl
theorem w_3590d7ab : (Jvm.Cond.selects "VerseCommittee" ({ cls := "VerseCommittee", name := "option", desc := "(II)Z" } : Jvm.MethodName) ({ cls := "VerseCommittee", name := "option", desc := "(II)Z" } : Jvm.MethodName)) ∈ BIG := big_mem 1336 (by decide +kernel) rfl
theorem w_35934799 : (Jvm.Cond.code ({ cls := "VerseCommittee", name := "signOfAdded", desc := "(III)I" } : Jvm.MethodName) prog_1_method_55_code (5 : Nat) (Option.some Jvm.ClassFile.FieldType.int)) ∈ BIG := big_mem 1500 (by decide +kernel) rfl
theorem w_35bdaf10 : (Jvm.Cond.methodLink "VerseCommittee" (331 : Nat) ({ cls := "VerseCommittee$Verses", name := "size", desc := "()I" } : Jvm.MethodName)) ∈ BIG := big_mem 1445 (by decide +kernel) rfl
theorem w_3615ddb4 : (Jvm.Cond.instanceMethod ({ cls := "VerseCommitteeModel", name := "isOfStage", desc := "(III)Z" } : Jvm.MethodName)) ∈ BIG := big_mem 2176 (by decide +kernel) rfl
theorem w_36312c84 : (Jvm.Cond.selects "VerseCommittee$Reckoner" ({ cls := "VerseCommittee$Reckoner", name := "reckonFactor", desc := "(ZI)I" } : Jvm.MethodName) ({ cls := "VerseCommittee$Reckoner", name := "reckonFactor", desc := "(ZI)I" } : Jvm.MethodName)) ∈ BIG := big_mem 34 (by decide +kernel) rfl
theorem w_3640bf9a : (Jvm.Cond.instanceMethod ({ cls := "VerseCommittee$Parser", name := "isTermSign", desc := "()Z" } : Jvm.MethodName)) ∈ BIG := big_mem 800 (by decide +kernel) rfl
theorem w_3643ff9c : (Jvm.Cond.code ({ cls := "VerseCommittee$Laws", name := "binds", desc := "(III)Z" } : Jvm.MethodName) prog_4_method_13_code (4 : Nat) (Option.some Jvm.ClassFile.FieldType.boolean)) ∈ BIG := big_mem 869 (by decide +kernel) rfl
theorem w_36930864 : (Jvm.Cond.instanceMethod ({ cls := "VerseCommitteeModel", name := "must", desc := "(I)V" } : Jvm.MethodName)) ∈ BIG := big_mem 2029 (by decide +kernel) rfl
theorem w_36f70e6c : (Jvm.Cond.fieldLink "VerseCommitteeModel" (29 : Nat) "VerseCommitteeModel" "spelled" "[B") ∈ BIG := big_mem 1639 (by decide +kernel) rfl
theorem w_370965b0 : (Jvm.Cond.selects "VerseCommittee" ({ cls := "VerseCommittee", name := "vote", desc := "(IIZ)Z" } : Jvm.MethodName) ({ cls := "VerseCommittee", name := "vote", desc := "(IIZ)Z" } : Jvm.MethodName)) ∈ BIG := big_mem 1082 (by decide +kernel) rfl
theorem w_37519205 : (Jvm.Cond.selects "VerseCommitteeModel" ({ cls := "VerseCommitteeModel", name := "holds", desc := "(IIII)I" } : Jvm.MethodName) ({ cls := "VerseCommitteeModel", name := "holds", desc := "(IIII)I" } : Jvm.MethodName)) ∈ BIG := big_mem 2133 (by decide +kernel) rfl
theorem w_378bda18 : (Jvm.Cond.code ({ cls := "VerseCommitteeModel", name := "goesBack", desc := "(II)I" } : Jvm.MethodName) prog_14_method_76_code (5 : Nat) (Option.some Jvm.ClassFile.FieldType.int)) ∈ BIG := big_mem 2197 (by decide +kernel) rfl
theorem w_379fa54e : (Jvm.Cond.instanceMethod ({ cls := "VerseCommitteeModel", name := "condition", desc := "()V" } : Jvm.MethodName)) ∈ BIG := big_mem 2041 (by decide +kernel) rfl
theorem w_37ab315c : (Jvm.Cond.selects "VerseCommittee$Parser" ({ cls := "VerseCommittee$Parser", name := "readPart", desc := "(I)Z" } : Jvm.MethodName) ({ cls := "VerseCommittee$Parser", name := "readPart", desc := "(I)Z" } : Jvm.MethodName)) ∈ BIG := big_mem 15 (by decide +kernel) rfl
theorem w_37b54201 : (Jvm.Cond.selects "VerseCommitteeModel" ({ cls := "VerseCommitteeModel", name := "isAsked", desc := "(III)Z" } : Jvm.MethodName) ({ cls := "VerseCommitteeModel", name := "isAsked", desc := "(III)Z" } : Jvm.MethodName)) ∈ BIG := big_mem 127 (by decide +kernel) rfl
theorem w_37f345d4 : (Jvm.Cond.methodLink "VerseCommittee$Reckoner" (92 : Nat) ({ cls := "VerseCommittee$Laws", name := "rulesOf", desc := "(I)I" } : Jvm.MethodName)) ∈ BIG := big_mem 913 (by decide +kernel) rfl
theorem w_3801a907 : (Jvm.Cond.methodLink "VerseCommittee" (404 : Nat) ({ cls := "VerseCommittee$People", name := "companyOf", desc := "(I)I" } : Jvm.MethodName)) ∈ BIG := big_mem 1105 (by decide +kernel) rfl
theorem w_38437f0b : (Jvm.Cond.code ({ cls := "VerseCommittee$Choices", name := "barOthers", desc := "(II)V" } : Jvm.MethodName) prog_2_method_19_code (4 : Nat) (Option.none : Option Jvm.ClassFile.FieldType)) ∈ BIG := big_mem 1407 (by decide +kernel) rfl
theorem w_38534f2d : (Jvm.Cond.code ({ cls := "VerseCommittee", name := "isDay", desc := "(I)Z" } : Jvm.MethodName) prog_1_method_42_code (1 : Nat) (Option.some Jvm.ClassFile.FieldType.boolean)) ∈ BIG := big_mem 582 (by decide +kernel) rfl
theorem w_388c7f9f : (Jvm.Cond.selects "VerseCommittee$Rendering" ({ cls := "VerseCommittee$Rendering", name := "daysSinceFixed", desc := "(I)I" } : Jvm.MethodName) ({ cls := "VerseCommittee$Rendering", name := "daysSinceFixed", desc := "(I)I" } : Jvm.MethodName)) ∈ BIG := big_mem 1147 (by decide +kernel) rfl
theorem w_389e7f0c : (Jvm.Cond.code ({ cls := "VerseCommitteeModel", name := "fewest", desc := "(II)I" } : Jvm.MethodName) prog_14_method_64_code (8 : Nat) (Option.some Jvm.ClassFile.FieldType.int)) ∈ BIG := big_mem 2157 (by decide +kernel) rfl
theorem w_38c3596d : (Jvm.Cond.static ({ cls := "VerseCommitteeModel", name := "isValue", desc := "(I)Z" } : Jvm.MethodName)) ∈ BIG := big_mem 2064 (by decide +kernel) rfl
theorem w_38d304af : (Jvm.Cond.instanceMethod ({ cls := "VerseCommittee$Parser", name := "readTurning", desc := "(I)Z" } : Jvm.MethodName)) ∈ BIG := big_mem 752 (by decide +kernel) rfl
theorem w_3957b6e1 : (Jvm.Cond.fieldLink "VerseCommittee$Verses" (15 : Nat) "VerseCommittee$Verses" "measures" "[I") ∈ BIG := big_mem 199 (by decide +kernel) rfl
theorem w_39603b9f : (Jvm.Cond.static ({ cls := "java/lang/Math", name := "max", desc := "(II)I" } : Jvm.MethodName)) ∈ BIG := big_mem 680 (by decide +kernel) rfl
theorem w_39e3f84f : (Jvm.Cond.selects "VerseCommitteeModel" ({ cls := "VerseCommitteeModel", name := "fixedOf", desc := "(I)I" } : Jvm.MethodName) ({ cls := "VerseCommitteeModel", name := "fixedOf", desc := "(I)I" } : Jvm.MethodName)) ∈ BIG := big_mem 117 (by decide +kernel) rfl
theorem w_39fd4f49 : (Jvm.Cond.methodLink "VerseCommittee$Words" (44 : Nat) ({ cls := "VerseCommittee$Words", name := "isVowel", desc := "(I)Z" } : Jvm.MethodName)) ∈ BIG := big_mem 676 (by decide +kernel) rfl
theorem w_3a3802f6 : (Jvm.Cond.instanceMethod ({ cls := "VerseCommitteeModel", name := "unlikes", desc := "(I)I" } : Jvm.MethodName)) ∈ BIG := big_mem 2256 (by decide +kernel) rfl
theorem w_3a73df1a : (Jvm.Cond.code ({ cls := "VerseCommittee$Words", name := "respell", desc := "(II[II)V" } : Jvm.MethodName) prog_12_method_5_code (5 : Nat) (Option.none : Option Jvm.ClassFile.FieldType)) ∈ BIG := big_mem 665 (by decide +kernel) rfl
theorem w_3a8d2a7b : (Jvm.Cond.fieldLink "VerseCommittee$Shelf" (21 : Nat) "VerseCommittee$Shelf" "turnVerse" "[I") ∈ BIG := big_mem 299 (by decide +kernel) rfl
theorem w_3ab348eb : (Jvm.Cond.fieldLink "VerseCommitteeModel" (150 : Nat) "VerseCommitteeModel" "votedThen" "[I") ∈ BIG := big_mem 1688 (by decide +kernel) rfl
theorem w_3ada0b38 : (Jvm.Cond.methodLink "VerseCommitteeLaw" (152 : Nat) ({ cls := "VerseCommitteeModel", name := "missed", desc := "(I)I" } : Jvm.MethodName)) ∈ BIG := big_mem 2333 (by decide +kernel) rfl
theorem w_3b05809d : (Jvm.Cond.instanceMethod ({ cls := "VerseCommittee", name := "unlike", desc := "(II)I" } : Jvm.MethodName)) ∈ BIG := big_mem 1290 (by decide +kernel) rfl
theorem w_3b253f40 : (Jvm.Cond.methodLink "VerseCommitteeModel" (563 : Nat) ({ cls := "VerseCommitteeModel", name := "bestRow", desc := "()I" } : Jvm.MethodName)) ∈ BIG := big_mem 2360 (by decide +kernel) rfl
theorem w_3b309f91 : (Jvm.Cond.code ({ cls := "VerseCommitteeModel", name := "neededAt", desc := "(III)I" } : Jvm.MethodName) prog_14_method_56_code (5 : Nat) (Option.some Jvm.ClassFile.FieldType.int)) ∈ BIG := big_mem 2106 (by decide +kernel) rfl
theorem w_3b584ab8 : (Jvm.Cond.code ({ cls := "VerseCommittee$Laws", name := "size", desc := "()I" } : Jvm.MethodName) prog_4_method_2_code (1 : Nat) (Option.some Jvm.ClassFile.FieldType.int)) ∈ BIG := big_mem 865 (by decide +kernel) rfl
theorem w_3b588f01 : (Jvm.Cond.selects "VerseCommittee$People" ({ cls := "VerseCommittee$People", name := "enterScholar", desc := "(IZ)I" } : Jvm.MethodName) ({ cls := "VerseCommittee$People", name := "enterScholar", desc := "(IZ)I" } : Jvm.MethodName)) ∈ BIG := big_mem 711 (by decide +kernel) rfl
theorem w_3bdad674 : (Jvm.Cond.fieldLink "VerseCommitteeModel" (539 : Nat) "VerseCommitteeModel" "printMany" "I") ∈ BIG := big_mem 1713 (by decide +kernel) rfl
theorem w_3be016c1 : (Jvm.Cond.methodLink "VerseCommittee" (94 : Nat) ({ cls := "VerseCommittee", name := "isDay", desc := "(I)Z" } : Jvm.MethodName)) ∈ BIG := big_mem 580 (by decide +kernel) rfl
theorem w_3c0bd07f : (Jvm.Cond.selects "VerseCommitteeModel" ({ cls := "VerseCommitteeModel", name := "unlike", desc := "(II)I" } : Jvm.MethodName) ({ cls := "VerseCommitteeModel", name := "unlike", desc := "(II)I" } : Jvm.MethodName)) ∈ BIG := big_mem 2252 (by decide +kernel) rfl
theorem w_3c15903a : (Jvm.Cond.selects "VerseCommittee$Reckoner" ({ cls := "VerseCommittee$Reckoner", name := "sign", desc := "()I" } : Jvm.MethodName) ({ cls := "VerseCommittee$Reckoner", name := "sign", desc := "()I" } : Jvm.MethodName)) ∈ BIG := big_mem 31 (by decide +kernel) rfl
theorem w_3c355df5 : (Jvm.Cond.fieldLink "VerseCommitteeModel" (99 : Nat) "VerseCommitteeModel" "rowA" "[I") ∈ BIG := big_mem 1671 (by decide +kernel) rfl
theorem w_3c504341 : (Jvm.Cond.selects "VerseCommittee$Words" ({ cls := "VerseCommittee$Words", name := "isSpelledSo", desc := "(I[II)Z" } : Jvm.MethodName) ({ cls := "VerseCommittee$Words", name := "isSpelledSo", desc := "(I[II)Z" } : Jvm.MethodName)) ∈ BIG := big_mem 5 (by decide +kernel) rfl
theorem w_3cbccbb6 : (Jvm.Cond.fieldLink "VerseCommittee$Rendering" (31 : Nat) "VerseCommittee$Rendering" "yes" "[I") ∈ BIG := big_mem 1038 (by decide +kernel) rfl
theorem w_3cbdf6f8 : (Jvm.Cond.fieldLink "VerseCommitteeModel" (54 : Nat) "VerseCommitteeModel" "ruleFor" "[I") ∈ BIG := big_mem 1647 (by decide +kernel) rfl
theorem w_3d0f4c95 : (Jvm.Cond.code ({ cls := "VerseCommittee$Choices", name := "choiceOfRow", desc := "()I" } : Jvm.MethodName) prog_2_method_11_code (3 : Nat) (Option.some Jvm.ClassFile.FieldType.int)) ∈ BIG := big_mem 1436 (by decide +kernel) rfl
theorem w_3d4ee636 : (Jvm.Cond.methodLink "VerseCommittee" (386 : Nat) ({ cls := "VerseCommittee$People", name := "companies", desc := "()I" } : Jvm.MethodName)) ∈ BIG := big_mem 1596 (by decide +kernel) rfl
theorem w_3d5508ef : (Jvm.Cond.methodLink "VerseCommitteeModel" (337 : Nat) ({ cls := "VerseCommitteeModel", name := "isSign", desc := "(I)Z" } : Jvm.MethodName)) ∈ BIG := big_mem 2084 (by decide +kernel) rfl
theorem w_3d583662 : (Jvm.Cond.fieldLink "VerseCommittee" (410 : Nat) "VerseCommittee" "NOTHING" "[I") ∈ BIG := big_mem 1479 (by decide +kernel) rfl
theorem w_3de26e63 : (Jvm.Cond.methodLink "VerseCommittee$Reckoner" (69 : Nat) ({ cls := "VerseCommittee$Laws", name := "binds", desc := "(III)Z" } : Jvm.MethodName)) ∈ BIG := big_mem 866 (by decide +kernel) rfl
theorem w_3dea8d19 : (Jvm.Cond.methodLink "VerseCommittee$Choices" (136 : Nat) ({ cls := "VerseCommittee$Laws", name := "clausesOf", desc := "(I)I" } : Jvm.MethodName)) ∈ BIG := big_mem 1397 (by decide +kernel) rfl
theorem w_3e7a3426 : (Jvm.Cond.instanceMethod ({ cls := "VerseCommittee$Words", name := "isSpelledSo", desc := "(I[II)Z" } : Jvm.MethodName)) ∈ BIG := big_mem 642 (by decide +kernel) rfl
theorem w_3e7f5da4 : (Jvm.Cond.code ({ cls := "VerseCommitteeModel", name := "areTurnedAlike", desc := "(IIII)Z" } : Jvm.MethodName) prog_14_method_90_code (6 : Nat) (Option.some Jvm.ClassFile.FieldType.boolean)) ∈ BIG := big_mem 2265 (by decide +kernel) rfl
theorem w_3e7ff7dc : (Jvm.Cond.fieldLink "VerseCommittee$Parser" (26 : Nat) "VerseCommittee$Parser" "size" "I") ∈ BIG := big_mem 329 (by decide +kernel) rfl
theorem w_3e8bf591 : (Jvm.Cond.methodLink "VerseCommittee$Findings" (59 : Nat) ({ cls := "VerseCommittee$Rendering", name := "verseNumber", desc := "()I" } : Jvm.MethodName)) ∈ BIG := big_mem 1229 (by decide +kernel) rfl
theorem w_3e974228 : (Jvm.Cond.instanceMethod ({ cls := "VerseCommitteeModel", name := "isMeant", desc := "(II)Z" } : Jvm.MethodName)) ∈ BIG := big_mem 2228 (by decide +kernel) rfl
theorem w_3ea5d707 : (Jvm.Cond.selects "VerseCommittee$Laws" ({ cls := "VerseCommittee$Laws", name := "size", desc := "()I" } : Jvm.MethodName) ({ cls := "VerseCommittee$Laws", name := "size", desc := "()I" } : Jvm.MethodName)) ∈ BIG := big_mem 864 (by decide +kernel) rfl
theorem w_3ecc9b19 : (Jvm.Cond.methodLink "VerseCommitteeModel" (346 : Nat) ({ cls := "VerseCommitteeModel", name := "ends", desc := "()V" } : Jvm.MethodName)) ∈ BIG := big_mem 2087 (by decide +kernel) rfl
theorem w_3ecde7bb : (Jvm.Cond.instanceMethod ({ cls := "VerseCommittee", name := "voids", desc := "(I)I" } : Jvm.MethodName)) ∈ BIG := big_mem 1176 (by decide +kernel) rfl
theorem w_3edceaa9 : (Jvm.Cond.instanceMethod ({ cls := "VerseCommittee$Words", name := "sizeIn", desc := "(II)I" } : Jvm.MethodName)) ∈ BIG := big_mem 1490 (by decide +kernel) rfl
theorem w_3ee8f721 : (Jvm.Cond.code ({ cls := "VerseCommittee$Findings", name := "shareClause", desc := "(II)Z" } : Jvm.MethodName) prog_3_method_11_code (4 : Nat) (Option.some Jvm.ClassFile.FieldType.boolean)) ∈ BIG := big_mem 1317 (by decide +kernel) rfl
theorem w_3ef93f8e : (Jvm.Cond.selects "VerseCommitteeModel" ({ cls := "VerseCommitteeModel", name := "isMeant", desc := "(II)Z" } : Jvm.MethodName) ({ cls := "VerseCommitteeModel", name := "isMeant", desc := "(II)Z" } : Jvm.MethodName)) ∈ BIG := big_mem 124 (by decide +kernel) rfl
theorem w_3f2e14b5 : (Jvm.Cond.selects "VerseCommittee$Rendering" ({ cls := "VerseCommittee$Rendering", name := "verseNumber", desc := "()I" } : Jvm.MethodName) ({ cls := "VerseCommittee$Rendering", name := "verseNumber", desc := "()I" } : Jvm.MethodName)) ∈ BIG := big_mem 1098 (by decide +kernel) rfl
theorem w_3fe85db5 : (Jvm.Cond.code ({ cls := "VerseCommittee$Planner", name := "gatherBooks", desc := "()V" } : Jvm.MethodName) prog_7_method_4_code (3 : Nat) (Option.none : Option Jvm.ClassFile.FieldType)) ∈ BIG := big_mem 1517 (by decide +kernel) rfl
theorem w_3ffe48c9 : (Jvm.Cond.methodLink "VerseCommitteeModel" (412 : Nat) ({ cls := "VerseCommitteeModel", name := "valueOf", desc := "(III)I" } : Jvm.MethodName)) ∈ BIG := big_mem 2146 (by decide +kernel) rfl
theorem w_4001f329 : (Jvm.Cond.methodLink "VerseCommittee" (340 : Nat) ({ cls := "VerseCommittee", name := "breaksMeasure", desc := "(LVerseCommittee$Rendering;I)Z" } : Jvm.MethodName)) ∈ BIG := big_mem 1448 (by decide +kernel) rfl
theorem w_4024e718 : (Jvm.Cond.selects "VerseCommittee$Rendering" ({ cls := "VerseCommittee$Rendering", name := "takeOut", desc := "(I)I" } : Jvm.MethodName) ({ cls := "VerseCommittee$Rendering", name := "takeOut", desc := "(I)I" } : Jvm.MethodName)) ∈ BIG := big_mem 1189 (by decide +kernel) rfl
theorem w_403580db : (Jvm.Cond.code ({ cls := "VerseCommitteeModel", name := "turnsBy", desc := "(III)Z" } : Jvm.MethodName) prog_14_method_82_code (6 : Nat) (Option.some Jvm.ClassFile.FieldType.boolean)) ∈ BIG := big_mem 2233 (by decide +kernel) rfl
theorem w_40727869 : (Jvm.Cond.methodLink "VerseCommittee" (159 : Nat) ({ cls := "VerseCommittee$People", name := "enterScholar", desc := "(IZ)I" } : Jvm.MethodName)) ∈ BIG := big_mem 709 (by decide +kernel) rfl
theorem w_40b6ff6e : (Jvm.Cond.code ({ cls := "VerseCommittee$Parser", name := "pass", desc := "(I)Z" } : Jvm.MethodName) prog_5_method_6_code (2 : Nat) (Option.some Jvm.ClassFile.FieldType.boolean)) ∈ BIG := big_mem 764 (by decide +kernel) rfl
theorem w_40d6d369 : (Jvm.Cond.instanceMethod ({ cls := "VerseCommittee$Rendering", name := "slots", desc := "()I" } : Jvm.MethodName)) ∈ BIG := big_mem 1327 (by decide +kernel) rfl
theorem w_4120f9c7 : (Jvm.Cond.instanceMethod ({ cls := "VerseCommittee$Laws", name := "binds", desc := "(III)Z" } : Jvm.MethodName)) ∈ BIG := big_mem 867 (by decide +kernel) rfl
theorem w_418585d9 : (Jvm.Cond.methodLink "VerseCommittee$Choices" (122 : Nat) ({ cls := "VerseCommittee$Rendering", name := "wordAt", desc := "(I)I" } : Jvm.MethodName)) ∈ BIG := big_mem 1389 (by decide +kernel) rfl
theorem w_41861822 : (Jvm.Cond.fieldLink "VerseCommittee$Reckoner" (76 : Nat) "VerseCommittee$Reckoner" "copy" "I") ∈ BIG := big_mem 363 (by decide +kernel) rfl
theorem w_4257fb46 : (Jvm.Cond.methodLink "VerseCommittee" (192 : Nat) ({ cls := "VerseCommittee$Reckoner", name := "verdict", desc := "(I)I" } : Jvm.MethodName)) ∈ BIG := big_mem 905 (by decide +kernel) rfl
theorem w_426f40f6 : (Jvm.Cond.fieldLink "VerseCommitteeModel" (500 : Nat) "VerseCommitteeModel" "placeB" "I") ∈ BIG := big_mem 1702 (by decide +kernel) rfl
theorem w_4296368c : (Jvm.Cond.methodLink "VerseCommittee$Reckoner" (110 : Nat) ({ cls := "VerseCommittee$Verses", name := "rowOf", desc := "(II)[I" } : Jvm.MethodName)) ∈ BIG := big_mem 899 (by decide +kernel) rfl
theorem w_42c237c7 : (Jvm.Cond.instanceMethod ({ cls := "VerseCommittee$Rendering", name := "wouldGoOn", desc := "(II)Z" } : Jvm.MethodName)) ∈ BIG := big_mem 1120 (by decide +kernel) rfl
theorem w_42e0f277 : (Jvm.Cond.methodLink "VerseCommitteeModel" (554 : Nat) ({ cls := "VerseCommitteeModel", name := "rows", desc := "()I" } : Jvm.MethodName)) ∈ BIG := big_mem 2364 (by decide +kernel) rfl
theorem w_42e74dac : (Jvm.Cond.selects "VerseCommittee$People" ({ cls := "VerseCommittee$People", name := "hasBook", desc := "(II)Z" } : Jvm.MethodName) ({ cls := "VerseCommittee$People", name := "hasBook", desc := "(II)Z" } : Jvm.MethodName)) ∈ BIG := big_mem 860 (by decide +kernel) rfl
theorem w_42ea06db : (Jvm.Cond.code ({ cls := "VerseCommittee$Rendering", name := "nextSlot", desc := "(II)I" } : Jvm.MethodName) prog_9_method_24_code (4 : Nat) (Option.some Jvm.ClassFile.FieldType.int)) ∈ BIG := big_mem 1325 (by decide +kernel) rfl
theorem w_4303416e : (Jvm.Cond.selects "VerseCommittee$Laws" ({ cls := "VerseCommittee$Laws", name := "value", desc := "(I)I" } : Jvm.MethodName) ({ cls := "VerseCommittee$Laws", name := "value", desc := "(I)I" } : Jvm.MethodName)) ∈ BIG := big_mem 897 (by decide +kernel) rfl
theorem w_4315fe6a : (Jvm.Cond.fieldLink "VerseCommitteeModel" (460 : Nat) "VerseCommitteeModel" "foundClause" "I") ∈ BIG := big_mem 1696 (by decide +kernel) rfl
theorem w_431e46e8 : (Jvm.Cond.fieldLink "VerseCommittee$Findings" (133 : Nat) "VerseCommittee$Findings" "places" "I") ∈ BIG := big_mem 416 (by decide +kernel) rfl
theorem w_4326372e : (Jvm.Cond.methodLink "VerseCommittee" (348 : Nat) ({ cls := "VerseCommittee$Verses", name := "missedBits", desc := "(I)I" } : Jvm.MethodName)) ∈ BIG := big_mem 1466 (by decide +kernel) rfl
theorem w_4354c3a8 : (Jvm.Cond.instanceMethod ({ cls := "VerseCommittee$Planner", name := "daysOf", desc := "(I)I" } : Jvm.MethodName)) ∈ BIG := big_mem 1560 (by decide +kernel) rfl
theorem w_438a19bd : (Jvm.Cond.methodLink "VerseCommittee$Planner" (41 : Nat) ({ cls := "VerseCommittee$Planner", name := "gatherBooks", desc := "()V" } : Jvm.MethodName)) ∈ BIG := big_mem 1514 (by decide +kernel) rfl
theorem w_43938b14 : (Jvm.Cond.code ({ cls := "VerseCommittee$Rendering", name := "enterState", desc := "(I)V" } : Jvm.MethodName) prog_9_method_16_code (2 : Nat) (Option.none : Option Jvm.ClassFile.FieldType)) ∈ BIG := big_mem 1161 (by decide +kernel) rfl
theorem w_43a287a5 : (Jvm.Cond.instanceMethod ({ cls := "VerseCommittee$Parser", name := "readCondition", desc := "(I)Z" } : Jvm.MethodName)) ∈ BIG := big_mem 771 (by decide +kernel) rfl
theorem w_43e85c44 : (Jvm.Cond.methodLink "VerseCommittee$Reckoner" (63 : Nat) ({ cls := "VerseCommittee$Laws", name := "size", desc := "()I" } : Jvm.MethodName)) ∈ BIG := big_mem 862 (by decide +kernel) rfl
theorem w_4411d7d4 : (Jvm.Cond.methodLink "VerseCommitteeModel" (566 : Nat) ({ cls := "VerseCommitteeModel", name := "fixedVerse", desc := "(I)I" } : Jvm.MethodName)) ∈ BIG := big_mem 2383 (by decide +kernel) rfl
theorem w_4421b3e5 : (Jvm.Cond.instanceMethod ({ cls := "VerseCommitteeModel", name := "does", desc := "(II)V" } : Jvm.MethodName)) ∈ BIG := big_mem 2141 (by decide +kernel) rfl
theorem w_444d112d : (Jvm.Cond.code ({ cls := "VerseCommitteeModel", name := "sizeOf", desc := "(I)I" } : Jvm.MethodName) prog_14_method_110_code (3 : Nat) (Option.some Jvm.ClassFile.FieldType.int)) ∈ BIG := big_mem 2339 (by decide +kernel) rfl
theorem w_445b6559 : (Jvm.Cond.instanceMethod ({ cls := "VerseCommitteeModel", name := "isWord", desc := "(I)Z" } : Jvm.MethodName)) ∈ BIG := big_mem 1966 (by decide +kernel) rfl
theorem w_446432f5 : (Jvm.Cond.selects "VerseCommitteeModel" ({ cls := "VerseCommitteeModel", name := "copyOf", desc := "(II)I" } : Jvm.MethodName) ({ cls := "VerseCommitteeModel", name := "copyOf", desc := "(II)I" } : Jvm.MethodName)) ∈ BIG := big_mem 108 (by decide +kernel) rfl
theorem w_4465a10f : (Jvm.Cond.instanceMethod ({ cls := "VerseCommittee$Shelf", name := "mayBeFixed", desc := "(III)Z" } : Jvm.MethodName)) ∈ BIG := big_mem 1133 (by decide +kernel) rfl
theorem w_446dab6b : (Jvm.Cond.instanceMethod ({ cls := "VerseCommittee$Laws", name := "putMeaning", desc := "(IIII)V" } : Jvm.MethodName)) ∈ BIG := big_mem 747 (by decide +kernel) rfl
theorem w_44aa6d21 : (Jvm.Cond.methodLink "VerseCommitteeModel" (379 : Nat) ({ cls := "VerseCommitteeModel", name := "clause", desc := "()V" } : Jvm.MethodName)) ∈ BIG := big_mem 2003 (by decide +kernel) rfl
theorem w_456ef66c : (Jvm.Cond.instanceMethod ({ cls := "VerseCommittee$Laws", name := "isFull", desc := "()Z" } : Jvm.MethodName)) ∈ BIG := big_mem 719 (by decide +kernel) rfl
theorem w_45a9fa1b : (Jvm.Cond.methodLink "VerseCommittee" (308 : Nat) ({ cls := "VerseCommittee$Findings", name := "seekUnlike", desc := "(II)Z" } : Jvm.MethodName)) ∈ BIG := big_mem 1293 (by decide +kernel) rfl
theorem w_45d777e4 : (Jvm.Cond.methodLink "VerseCommitteeLaw" (134 : Nat) ({ cls := "VerseCommitteeModel", name := "cost", desc := "(I)I" } : Jvm.MethodName)) ∈ BIG := big_mem 2286 (by decide +kernel) rfl
theorem w_462d3863 : (Jvm.Cond.methodLink "VerseCommittee" (178 : Nat) ({ cls := "VerseCommittee$Laws", name := "enact", desc := "([III)I" } : Jvm.MethodName)) ∈ BIG := big_mem 826 (by decide +kernel) rfl
theorem w_465eafbd : (Jvm.Cond.code ({ cls := "VerseCommitteeModel", name := "seesDigit", desc := "()Z" } : Jvm.MethodName) prog_14_method_33_code (1 : Nat) (Option.some Jvm.ClassFile.FieldType.boolean)) ∈ BIG := big_mem 2026 (by decide +kernel) rfl
theorem w_46691917 : (Jvm.Cond.methodLink "VerseCommittee$Rendering" (72 : Nat) ({ cls := "VerseCommittee$Rendering", name := "standsWithout", desc := "(II)Z" } : Jvm.MethodName)) ∈ BIG := big_mem 1191 (by decide +kernel) rfl
theorem w_469cc37b : (Jvm.Cond.instanceMethod ({ cls := "VerseCommittee$Rendering", name := "fill", desc := "([II)V" } : Jvm.MethodName)) ∈ BIG := big_mem 1072 (by decide +kernel) rfl
theorem w_46a5c70b : (Jvm.Cond.instanceMethod ({ cls := "VerseCommitteeModel", name := "isInForce", desc := "(III)Z" } : Jvm.MethodName)) ∈ BIG := big_mem 2113 (by decide +kernel) rfl
theorem w_470fea27 : (Jvm.Cond.code ({ cls := "VerseCommitteeModel", name := "holds", desc := "(IIII)I" } : Jvm.MethodName) prog_14_method_63_code (5 : Nat) (Option.some Jvm.ClassFile.FieldType.int)) ∈ BIG := big_mem 2134 (by decide +kernel) rfl
theorem w_476bcdd6 : (Jvm.Cond.selects "VerseCommittee$Reckoner" ({ cls := "VerseCommittee$Reckoner", name := "reckonTerm", desc := "(ZI)I" } : Jvm.MethodName) ({ cls := "VerseCommittee$Reckoner", name := "reckonTerm", desc := "(ZI)I" } : Jvm.MethodName)) ∈ BIG := big_mem 33 (by decide +kernel) rfl
theorem w_47b909ac : (Jvm.Cond.fieldLink "VerseCommittee$Shelf" (30 : Nat) "VerseCommittee$Shelf" "size" "I") ∈ BIG := big_mem 302 (by decide +kernel) rfl
theorem w_47c0078d : (Jvm.Cond.methodLink "VerseCommitteeModel" (448 : Nat) ({ cls := "VerseCommitteeModel", name := "goesBack", desc := "(II)I" } : Jvm.MethodName)) ∈ BIG := big_mem 2194 (by decide +kernel) rfl
theorem w_47d56ff5 : (Jvm.Cond.methodLink "VerseCommitteeLaw" (114 : Nat) ({ cls := "VerseCommittee", name := "quarrel", desc := "(III)I" } : Jvm.MethodName)) ∈ BIG := big_mem 1275 (by decide +kernel) rfl
theorem w_47ece01d : (Jvm.Cond.methodLink "VerseCommittee$Shelf" (66 : Nat) ({ cls := "VerseCommittee$Rendering", name := "becomeFixed", desc := "(I)V" } : Jvm.MethodName)) ∈ BIG := big_mem 1162 (by decide +kernel) rfl
theorem w_48db7707 : (Jvm.Cond.code ({ cls := "VerseCommittee", name := "verse", desc := "(II)I" } : Jvm.MethodName) prog_1_method_4_code (3 : Nat) (Option.some Jvm.ClassFile.FieldType.int)) ∈ BIG := big_mem 594 (by decide +kernel) rfl
theorem w_4926ae5f : (Jvm.Cond.initialized "VerseCommittee$Rendering") ∈ BIG := big_mem 162 (by decide +kernel) rfl
theorem w_49367758 : (Jvm.Cond.code ({ cls := "VerseCommitteeModel", name := "syllables", desc := "(I)I" } : Jvm.MethodName) prog_14_method_21_code (2 : Nat) (Option.some Jvm.ClassFile.FieldType.int)) ∈ BIG := big_mem 1971 (by decide +kernel) rfl
theorem w_4938585f : (Jvm.Cond.selects "VerseCommitteeModel" ({ cls := "VerseCommitteeModel", name := "isInForce", desc := "(III)Z" } : Jvm.MethodName) ({ cls := "VerseCommitteeModel", name := "isInForce", desc := "(III)Z" } : Jvm.MethodName)) ∈ BIG := big_mem 105 (by decide +kernel) rfl
theorem w_49837052 : (Jvm.Cond.methodLink "VerseCommitteeLaw" (131 : Nat) ({ cls := "VerseCommittee", name := "cost", desc := "(I)I" } : Jvm.MethodName)) ∈ BIG := big_mem 1365 (by decide +kernel) rfl
theorem w_49c95b56 : (Jvm.Cond.fieldLink "VerseCommitteeModel" (7 : Nat) "VerseCommitteeModel" "tape" "[B") ∈ BIG := big_mem 1624 (by decide +kernel) rfl
theorem w_49df9d0b : (Jvm.Cond.fieldLink "VerseCommittee" (26 : Nat) "VerseCommittee" "verses" "LVerseCommittee$Verses;") ∈ BIG := big_mem 536 (by decide +kernel) rfl
theorem w_49e7fee7 : (Jvm.Cond.fieldLink "VerseCommitteeModel" (117 : Nat) "VerseCommitteeModel" "rDay" "[I") ∈ BIG := big_mem 1677 (by decide +kernel) rfl
theorem w_49eb30cd : (Jvm.Cond.selects "VerseCommitteeModel" ({ cls := "VerseCommitteeModel", name := "unfixes", desc := "(I)V" } : Jvm.MethodName) ({ cls := "VerseCommitteeModel", name := "unfixes", desc := "(I)V" } : Jvm.MethodName)) ∈ BIG := big_mem 121 (by decide +kernel) rfl
theorem w_4a52cd4b : (Jvm.Cond.code ({ cls := "VerseCommittee", name := "cost", desc := "(I)I" } : Jvm.MethodName) prog_1_method_29_code (2 : Nat) (Option.some Jvm.ClassFile.FieldType.int)) ∈ BIG := big_mem 1368 (by decide +kernel) rfl
theorem w_4a7f4070 : (Jvm.Cond.selects "VerseCommittee$Reckoner" ({ cls := "VerseCommittee$Reckoner", name := "reckonCondition", desc := "(ZI)Z" } : Jvm.MethodName) ({ cls := "VerseCommittee$Reckoner", name := "reckonCondition", desc := "(ZI)Z" } : Jvm.MethodName)) ∈ BIG := big_mem 28 (by decide +kernel) rfl
theorem w_4a95ce7c : (Jvm.Cond.fieldLink "VerseCommittee$Rendering" (21 : Nat) "VerseCommittee$Rendering" "state" "I") ∈ BIG := big_mem 1035 (by decide +kernel) rfl
theorem w_4a993258 : (Jvm.Cond.selects "VerseCommittee$Reckoner" ({ cls := "VerseCommittee$Reckoner", name := "findCopy", desc := "()V" } : Jvm.MethodName) ({ cls := "VerseCommittee$Reckoner", name := "findCopy", desc := "()V" } : Jvm.MethodName)) ∈ BIG := big_mem 26 (by decide +kernel) rfl
theorem w_4ab3d4c1 : (Jvm.Cond.code ({ cls := "VerseCommitteeModel", name := "now", desc := "(I)Z" } : Jvm.MethodName) prog_14_method_7_code (2 : Nat) (Option.some Jvm.ClassFile.FieldType.boolean)) ∈ BIG := big_mem 1916 (by decide +kernel) rfl
theorem w_4b68875f : (Jvm.Cond.instanceMethod ({ cls := "VerseCommittee", name := "tapeHasLetters", desc := "(I)Z" } : Jvm.MethodName)) ∈ BIG := big_mem 630 (by decide +kernel) rfl
theorem w_4be44a75 : (Jvm.Cond.selects "VerseCommittee$Choices" ({ cls := "VerseCommittee$Choices", name := "addPrices", desc := "(LVerseCommittee$Rendering;)V" } : Jvm.MethodName) ({ cls := "VerseCommittee$Choices", name := "addPrices", desc := "(LVerseCommittee$Rendering;)V" } : Jvm.MethodName)) ∈ BIG := big_mem 54 (by decide +kernel) rfl
theorem w_4be6e82e : (Jvm.Cond.instanceMethod ({ cls := "VerseCommittee$Words", name := "enter", desc := "([II)I" } : Jvm.MethodName)) ∈ BIG := big_mem 633 (by decide +kernel) rfl
theorem w_4bfa4fd9 : (Jvm.Cond.instanceMethod ({ cls := "VerseCommittee", name := "judge", desc := "(I)I" } : Jvm.MethodName)) ∈ BIG := big_mem 1556 (by decide +kernel) rfl
theorem w_4c0a5463 : (Jvm.Cond.selects "VerseCommittee$Findings" ({ cls := "VerseCommittee$Findings", name := "markAlike", desc := "(II)Z" } : Jvm.MethodName) ({ cls := "VerseCommittee$Findings", name := "markAlike", desc := "(II)Z" } : Jvm.MethodName)) ∈ BIG := big_mem 46 (by decide +kernel) rfl
theorem w_4c3b10aa : (Jvm.Cond.instanceMethod ({ cls := "VerseCommittee", name := "changes", desc := "(III)I" } : Jvm.MethodName)) ∈ BIG := big_mem 1472 (by decide +kernel) rfl
theorem w_4c684ffd : (Jvm.Cond.code ({ cls := "VerseCommittee$Rendering", name := "isUnderVote", desc := "()Z" } : Jvm.MethodName) prog_9_method_11_code (1 : Nat) (Option.some Jvm.ClassFile.FieldType.boolean)) ∈ BIG := big_mem 1091 (by decide +kernel) rfl
theorem w_4c7a4c29 : (Jvm.Cond.code ({ cls := "VerseCommittee", name := "missed", desc := "(I)I" } : Jvm.MethodName) prog_1_method_33_code (2 : Nat) (Option.some Jvm.ClassFile.FieldType.int)) ∈ BIG := big_mem 1465 (by decide +kernel) rfl
theorem w_4c8d4ec9 : (Jvm.Cond.selects "VerseCommitteeModel" ({ cls := "VerseCommitteeModel", name := "isUnlike", desc := "(IIII)Z" } : Jvm.MethodName) ({ cls := "VerseCommitteeModel", name := "isUnlike", desc := "(IIII)Z" } : Jvm.MethodName)) ∈ BIG := big_mem 129 (by decide +kernel) rfl
theorem w_4cc6997e : (Jvm.Cond.methodLink "VerseCommittee" (351 : Nat) ({ cls := "VerseCommittee", name := "wordsFixedThen", desc := "(II)[I" } : Jvm.MethodName)) ∈ BIG := big_mem 1475 (by decide +kernel) rfl
theorem w_4cd558bb : (Jvm.Cond.instanceMethod ({ cls := "VerseCommittee$Reckoner", name := "isInForce", desc := "(I)Z" } : Jvm.MethodName)) ∈ BIG := big_mem 879 (by decide +kernel) rfl
theorem w_4ce63691 : (Jvm.Cond.selects "VerseCommitteeModel" ({ cls := "VerseCommitteeModel", name := "must", desc := "(I)V" } : Jvm.MethodName) ({ cls := "VerseCommitteeModel", name := "must", desc := "(I)V" } : Jvm.MethodName)) ∈ BIG := big_mem 89 (by decide +kernel) rfl
theorem w_4d28261f : (Jvm.Cond.instanceMethod ({ cls := "VerseCommitteeModel", name := "printed", desc := "(III)I" } : Jvm.MethodName)) ∈ BIG := big_mem 2345 (by decide +kernel) rfl
theorem w_4d61475f : (Jvm.Cond.selects "VerseCommitteeModel" ({ cls := "VerseCommitteeModel", name := "isGood", desc := "()Z" } : Jvm.MethodName) ({ cls := "VerseCommitteeModel", name := "isGood", desc := "()Z" } : Jvm.MethodName)) ∈ BIG := big_mem 82 (by decide +kernel) rfl
theorem w_4dd9dd23 : (Jvm.Cond.fieldLink "VerseCommittee$Choices" (25 : Nat) "VerseCommittee$Choices" "prices" "[I") ∈ BIG := big_mem 460 (by decide +kernel) rfl
theorem w_4e23eec2 : (Jvm.Cond.fieldLink "VerseCommittee$Planner" (29 : Nat) "VerseCommittee$Planner" "verses" "LVerseCommittee$Verses;") ∈ BIG := big_mem 502 (by decide +kernel) rfl
theorem w_4e2deec9 : (Jvm.Cond.methodLink "VerseCommittee$Planner" (68 : Nat) ({ cls := "VerseCommittee$Planner", name := "through", desc := "(II)I" } : Jvm.MethodName)) ∈ BIG := big_mem 1530 (by decide +kernel) rfl
theorem w_4e368a2a : (Jvm.Cond.code ({ cls := "VerseCommitteeModel", name := "push", desc := "(I)V" } : Jvm.MethodName) prog_14_method_8_code (3 : Nat) (Option.none : Option Jvm.ClassFile.FieldType)) ∈ BIG := big_mem 1927 (by decide +kernel) rfl
theorem w_4e49bb0b : (Jvm.Cond.instanceMethod ({ cls := "VerseCommitteeModel", name := "clause", desc := "()V" } : Jvm.MethodName)) ∈ BIG := big_mem 2005 (by decide +kernel) rfl
theorem w_4e596cf3 : (Jvm.Cond.methodLink "VerseCommitteeLaw" (164 : Nat) ({ cls := "VerseCommitteeModel", name := "plan", desc := "(I)I" } : Jvm.MethodName)) ∈ BIG := big_mem 2352 (by decide +kernel) rfl
theorem w_4e5f265c : (Jvm.Cond.methodLink "VerseCommitteeModel" (454 : Nat) ({ cls := "VerseCommitteeModel", name := "isMeant", desc := "(II)Z" } : Jvm.MethodName)) ∈ BIG := big_mem 2226 (by decide +kernel) rfl
theorem w_4e6b044f : (Jvm.Cond.instanceMethod ({ cls := "VerseCommittee", name := "centre", desc := "(I)Z" } : Jvm.MethodName)) ∈ BIG := big_mem 694 (by decide +kernel) rfl
theorem w_4eaa04df : (Jvm.Cond.methodLink "VerseCommittee$Parser" (95 : Nat) ({ cls := "VerseCommittee$Parser", name := "readPiece", desc := "(I)Z" } : Jvm.MethodName)) ∈ BIG := big_mem 777 (by decide +kernel) rfl
theorem w_4ef1143d : (Jvm.Cond.instanceMethod ({ cls := "VerseCommittee$Reckoner", name := "reckonCondition", desc := "(ZI)Z" } : Jvm.MethodName)) ∈ BIG := big_mem 923 (by decide +kernel) rfl
theorem w_4f11b4e9 : (Jvm.Cond.instanceMethod ({ cls := "VerseCommittee$Rendering", name := "turnAt", desc := "(I)I" } : Jvm.MethodName)) ∈ BIG := big_mem 1386 (by decide +kernel) rfl
theorem w_4f2272bc : (Jvm.Cond.instanceMethod ({ cls := "VerseCommittee$Verses", name := "<init>", desc := "()V" } : Jvm.MethodName)) ∈ BIG := big_mem 193 (by decide +kernel) rfl
theorem w_4f33bf03 : (Jvm.Cond.code ({ cls := "VerseCommittee$Verses", name := "enter", desc := "(II)I" } : Jvm.MethodName) prog_11_method_4_code (3 : Nat) (Option.some Jvm.ClassFile.FieldType.int)) ∈ BIG := big_mem 598 (by decide +kernel) rfl
theorem w_4f3e7ab3 : (Jvm.Cond.methodLink "VerseCommittee" (156 : Nat) ({ cls := "VerseCommittee$People", name := "hasCompany", desc := "(I)Z" } : Jvm.MethodName)) ∈ BIG := big_mem 705 (by decide +kernel) rfl
theorem w_4f70438c : (Jvm.Cond.methodLink "VerseCommittee" (250 : Nat) ({ cls := "VerseCommittee$Rendering", name := "putVote", desc := "(IZ)V" } : Jvm.MethodName)) ∈ BIG := big_mem 1110 (by decide +kernel) rfl
theorem w_4fab6dbb : (Jvm.Cond.selects "VerseCommittee$Shelf" ({ cls := "VerseCommittee$Shelf", name := "fixedAt", desc := "(I)LVerseCommittee$Rendering;" } : Jvm.MethodName) ({ cls := "VerseCommittee$Shelf", name := "fixedAt", desc := "(I)LVerseCommittee$Rendering;" } : Jvm.MethodName)) ∈ BIG := big_mem 1138 (by decide +kernel) rfl
theorem w_4fb25c86 : (Jvm.Cond.instanceMethod ({ cls := "VerseCommitteeModel", name := "push", desc := "(I)V" } : Jvm.MethodName)) ∈ BIG := big_mem 1926 (by decide +kernel) rfl
theorem w_4fb6f3c0 : (Jvm.Cond.methodLink "VerseCommitteeLaw" (50 : Nat) ({ cls := "VerseCommittee", name := "centre", desc := "(I)Z" } : Jvm.MethodName)) ∈ BIG := big_mem 693 (by decide +kernel) rfl
theorem w_4fb6f58d : (Jvm.Cond.instanceMethod ({ cls := "VerseCommittee$Planner", name := "gatherBooks", desc := "()V" } : Jvm.MethodName)) ∈ BIG := big_mem 1516 (by decide +kernel) rfl
theorem w_4fc22653 : (Jvm.Cond.selects "VerseCommittee" ({ cls := "VerseCommittee", name := "scholar", desc := "(IZ)I" } : Jvm.MethodName) ({ cls := "VerseCommittee", name := "scholar", desc := "(IZ)I" } : Jvm.MethodName)) ∈ BIG := big_mem 703 (by decide +kernel) rfl
theorem w_4fde76c4 : (Jvm.Cond.methodLink "VerseCommitteeLaw" (85 : Nat) ({ cls := "VerseCommittee", name := "vote", desc := "(IIZ)Z" } : Jvm.MethodName)) ∈ BIG := big_mem 1080 (by decide +kernel) rfl
theorem w_4ffbb267 : (Jvm.Cond.instanceMethod ({ cls := "VerseCommittee", name := "company", desc := "(II)I" } : Jvm.MethodName)) ∈ BIG := big_mem 683 (by decide +kernel) rfl
theorem w_5007ddc1 : (Jvm.Cond.methodLink "VerseCommitteeModel" (316 : Nat) ({ cls := "VerseCommitteeModel", name := "emit", desc := "(II)V" } : Jvm.MethodName)) ∈ BIG := big_mem 2059 (by decide +kernel) rfl
theorem w_500fc52b : (Jvm.Cond.selects "VerseCommittee$Rendering" ({ cls := "VerseCommittee$Rendering", name := "turnsLike", desc := "(ILVerseCommittee$Rendering;I)Z" } : Jvm.MethodName) ({ cls := "VerseCommittee$Rendering", name := "turnsLike", desc := "(ILVerseCommittee$Rendering;I)Z" } : Jvm.MethodName)) ∈ BIG := big_mem 1320 (by decide +kernel) rfl
theorem w_50239e31 : (Jvm.Cond.instanceMethod ({ cls := "VerseCommittee$Words", name := "size", desc := "()I" } : Jvm.MethodName)) ∈ BIG := big_mem 1593 (by decide +kernel) rfl
theorem w_50249438 : (Jvm.Cond.code ({ cls := "VerseCommittee", name := "putFour", desc := "(I)V" } : Jvm.MethodName) prog_1_method_41_code (3 : Nat) (Option.none : Option Jvm.ClassFile.FieldType)) ∈ BIG := big_mem 590 (by decide +kernel) rfl
theorem w_503dfaaa : (Jvm.Cond.selects "VerseCommittee$Parser" ({ cls := "VerseCommittee$Parser", name := "readClause", desc := "(I)Z" } : Jvm.MethodName) ({ cls := "VerseCommittee$Parser", name := "readClause", desc := "(I)Z" } : Jvm.MethodName)) ∈ BIG := big_mem 7 (by decide +kernel) rfl
theorem w_507629e2 : (Jvm.Cond.code ({ cls := "VerseCommittee$Reckoner", name := "reckonPart", desc := "(ZI)Z" } : Jvm.MethodName) prog_8_method_14_code (6 : Nat) (Option.some Jvm.ClassFile.FieldType.boolean)) ∈ BIG := big_mem 928 (by decide +kernel) rfl
theorem w_50b30010 : (Jvm.Cond.code ({ cls := "VerseCommittee$Laws", name := "textOf", desc := "(I)[I" } : Jvm.MethodName) prog_4_method_14_code (3 : Nat) (Option.some (Jvm.ClassFile.FieldType.array Jvm.ClassFile.FieldType.int))) ∈ BIG := big_mem 919 (by decide +kernel) rfl
theorem w_50c712e0 : (Jvm.Cond.code ({ cls := "VerseCommittee$Findings", name := "gatherHeld", desc := "(II[I)V" } : Jvm.MethodName) prog_3_method_8_code (7 : Nat) (Option.none : Option Jvm.ClassFile.FieldType)) ∈ BIG := big_mem 1233 (by decide +kernel) rfl
theorem w_50ca2749 : (Jvm.Cond.code ({ cls := "VerseCommittee$Parser", name := "readSum", desc := "(I)Z" } : Jvm.MethodName) prog_5_method_20_code (4 : Nat) (Option.some Jvm.ClassFile.FieldType.boolean)) ∈ BIG := big_mem 788 (by decide +kernel) rfl
theorem w_50dc7823 : (Jvm.Cond.fieldLink "VerseCommitteeModel" (93 : Nat) "VerseCommitteeModel" "value" "[I") ∈ BIG := big_mem 1669 (by decide +kernel) rfl
theorem w_50e7bb4c : (Jvm.Cond.methodLink "VerseCommittee$Parser" (104 : Nat) ({ cls := "VerseCommittee$Parser", name := "readComparison", desc := "()Z" } : Jvm.MethodName)) ∈ BIG := big_mem 802 (by decide +kernel) rfl
theorem w_5152db6f : (Jvm.Cond.selects "VerseCommitteeModel" ({ cls := "VerseCommitteeModel", name := "joins", desc := "(Z)V" } : Jvm.MethodName) ({ cls := "VerseCommitteeModel", name := "joins", desc := "(Z)V" } : Jvm.MethodName)) ∈ BIG := big_mem 102 (by decide +kernel) rfl
theorem w_5158ecdf : (Jvm.Cond.instanceMethod ({ cls := "VerseCommitteeModel", name := "turnsBy", desc := "(III)Z" } : Jvm.MethodName)) ∈ BIG := big_mem 2232 (by decide +kernel) rfl
theorem w_51680d9f : (Jvm.Cond.instanceMethod ({ cls := "VerseCommittee", name := "word", desc := "(I)I" } : Jvm.MethodName)) ∈ BIG := big_mem 625 (by decide +kernel) rfl
theorem w_51e34c7e : (Jvm.Cond.methodLink "VerseCommittee$Reckoner" (128 : Nat) ({ cls := "VerseCommittee$Laws", name := "subject", desc := "(I)I" } : Jvm.MethodName)) ∈ BIG := big_mem 891 (by decide +kernel) rfl
theorem w_51f8676f : (Jvm.Cond.selects "VerseCommitteeModel" ({ cls := "VerseCommitteeModel", name := "isDay", desc := "(I)Z" } : Jvm.MethodName) ({ cls := "VerseCommitteeModel", name := "isDay", desc := "(I)Z" } : Jvm.MethodName)) ∈ BIG := big_mem 81 (by decide +kernel) rfl
theorem w_5200bd5d : (Jvm.Cond.methodLink "VerseCommittee$Words" (52 : Nat) ({ cls := "java/lang/Math", name := "min", desc := "(II)I" } : Jvm.MethodName)) ∈ BIG := big_mem 648 (by decide +kernel) rfl
theorem w_52117533 : (Jvm.Cond.code ({ cls := "VerseCommittee$Laws", name := "isFull", desc := "()Z" } : Jvm.MethodName) prog_4_method_3_code (1 : Nat) (Option.some Jvm.ClassFile.FieldType.boolean)) ∈ BIG := big_mem 721 (by decide +kernel) rfl
theorem w_521b3cf5 : (Jvm.Cond.code ({ cls := "VerseCommitteeModel", name := "breachesOf", desc := "(II)I" } : Jvm.MethodName) prog_14_method_83_code (7 : Nat) (Option.some Jvm.ClassFile.FieldType.int)) ∈ BIG := big_mem 2225 (by decide +kernel) rfl
theorem w_52a2a59e : (Jvm.Cond.code ({ cls := "VerseCommittee$People", name := "makeVoid", desc := "(I)V" } : Jvm.MethodName) prog_6_method_11_code (2 : Nat) (Option.none : Option Jvm.ClassFile.FieldType)) ∈ BIG := big_mem 1182 (by decide +kernel) rfl
theorem w_52e7bf47 : (Jvm.Cond.methodLink "VerseCommittee$Parser" (88 : Nat) ({ cls := "VerseCommittee$Parser", name := "readCondition", desc := "(I)Z" } : Jvm.MethodName)) ∈ BIG := big_mem 769 (by decide +kernel) rfl
theorem w_531da04b : (Jvm.Cond.code ({ cls := "VerseCommittee", name := "quarrel", desc := "(III)I" } : Jvm.MethodName) prog_1_method_25_code (4 : Nat) (Option.some Jvm.ClassFile.FieldType.int)) ∈ BIG := big_mem 1278 (by decide +kernel) rfl
theorem w_531ee951 : (Jvm.Cond.code ({ cls := "VerseCommittee$Choices", name := "choose", desc := "(II)V" } : Jvm.MethodName) prog_2_method_14_code (4 : Nat) (Option.none : Option Jvm.ClassFile.FieldType)) ∈ BIG := big_mem 1432 (by decide +kernel) rfl
theorem w_5372e528 : (Jvm.Cond.fieldLink "VerseCommitteeModel" (20 : Nat) "VerseCommitteeModel" "size" "[I") ∈ BIG := big_mem 1636 (by decide +kernel) rfl
theorem w_53868500 : (Jvm.Cond.code ({ cls := "VerseCommittee$Words", name := "letterIn", desc := "(III)I" } : Jvm.MethodName) prog_12_method_7_code (4 : Nat) (Option.some Jvm.ClassFile.FieldType.int)) ∈ BIG := big_mem 1504 (by decide +kernel) rfl
theorem w_5388a70a : (Jvm.Cond.methodLink "VerseCommitteeLaw" (12 : Nat) ({ cls := "VerseCommitteeModel", name := "<init>", desc := "()V" } : Jvm.MethodName)) ∈ BIG := big_mem 1620 (by decide +kernel) rfl
theorem w_53ae6292 : (Jvm.Cond.fieldLink "VerseCommitteeModel" (491 : Nat) "VerseCommitteeModel" "twoA" "I") ∈ BIG := big_mem 1699 (by decide +kernel) rfl
theorem w_53bdd563 : (Jvm.Cond.selects "VerseCommittee$People" ({ cls := "VerseCommittee$People", name := "voters", desc := "(II)I" } : Jvm.MethodName) ({ cls := "VerseCommittee$People", name := "voters", desc := "(II)I" } : Jvm.MethodName)) ∈ BIG := big_mem 1108 (by decide +kernel) rfl
theorem w_53f3b318 : (Jvm.Cond.instanceMethod ({ cls := "VerseCommittee", name := "missed", desc := "(I)I" } : Jvm.MethodName)) ∈ BIG := big_mem 1463 (by decide +kernel) rfl
theorem w_541e5862 : (Jvm.Cond.code ({ cls := "VerseCommittee$Parser", name := "readClause", desc := "(I)Z" } : Jvm.MethodName) prog_5_method_8_code (3 : Nat) (Option.some Jvm.ClassFile.FieldType.boolean)) ∈ BIG := big_mem 729 (by decide +kernel) rfl
theorem w_5432a6d1 : (Jvm.Cond.instanceMethod ({ cls := "VerseCommittee$Parser", name := "readTail", desc := "(II)Z" } : Jvm.MethodName)) ∈ BIG := big_mem 767 (by decide +kernel) rfl
theorem w_543bb3cc : (Jvm.Cond.instanceMethod ({ cls := "VerseCommittee$Shelf", name := "fixedAt", desc := "(I)LVerseCommittee$Rendering;" } : Jvm.MethodName)) ∈ BIG := big_mem 1137 (by decide +kernel) rfl
theorem w_54491cfb : (Jvm.Cond.selects "VerseCommitteeModel" ({ cls := "VerseCommitteeModel", name := "placeOf", desc := "(I)I" } : Jvm.MethodName) ({ cls := "VerseCommitteeModel", name := "placeOf", desc := "(I)I" } : Jvm.MethodName)) ∈ BIG := big_mem 133 (by decide +kernel) rfl
theorem w_5457891a : (Jvm.Cond.code ({ cls := "VerseCommitteeModel", name := "tokensOf", desc := "(II)I" } : Jvm.MethodName) prog_14_method_55_code (4 : Nat) (Option.some Jvm.ClassFile.FieldType.int)) ∈ BIG := big_mem 2130 (by decide +kernel) rfl
theorem w_54a69b2a : (Jvm.Cond.methodLink "VerseCommittee$Findings" (130 : Nat) ({ cls := "VerseCommittee$Reckoner", name := "verdict", desc := "(I)I" } : Jvm.MethodName)) ∈ BIG := big_mem 1248 (by decide +kernel) rfl
theorem w_54e1e230 : (Jvm.Cond.methodLink "VerseCommittee" (233 : Nat) ({ cls := "VerseCommittee$Rendering", name := "fill", desc := "([II)V" } : Jvm.MethodName)) ∈ BIG := big_mem 1071 (by decide +kernel) rfl
theorem w_555791c9 : (Jvm.Cond.instanceMethod ({ cls := "VerseCommittee$Findings", name := "seekSecond", desc := "(III)Z" } : Jvm.MethodName)) ∈ BIG := big_mem 1287 (by decide +kernel) rfl
theorem w_5563c4b6 : (Jvm.Cond.code ({ cls := "VerseCommittee$Reckoner", name := "numberThere", desc := "()I" } : Jvm.MethodName) prog_8_method_21_code (3 : Nat) (Option.some Jvm.ClassFile.FieldType.int)) ∈ BIG := big_mem 955 (by decide +kernel) rfl
theorem w_55b6b073 : (Jvm.Cond.instanceMethod ({ cls := "VerseCommitteeModel", name := "bars", desc := "(II)V" } : Jvm.MethodName)) ∈ BIG := big_mem 2303 (by decide +kernel) rfl
theorem w_55bb6e79 : (Jvm.Cond.methodLink "VerseCommitteeModel" (343 : Nat) ({ cls := "VerseCommitteeModel", name := "goesOn", desc := "()Z" } : Jvm.MethodName)) ∈ BIG := big_mem 2066 (by decide +kernel) rfl
theorem w_55f11be4 : (Jvm.Cond.selects "VerseCommitteeModel" ({ cls := "VerseCommitteeModel", name := "condition", desc := "()V" } : Jvm.MethodName) ({ cls := "VerseCommitteeModel", name := "condition", desc := "()V" } : Jvm.MethodName)) ∈ BIG := big_mem 91 (by decide +kernel) rfl
theorem w_561c3fed : (Jvm.Cond.methodLink "VerseCommittee$Findings" (93 : Nat) ({ cls := "VerseCommittee$Verses", name := "rowOf", desc := "(II)[I" } : Jvm.MethodName)) ∈ BIG := big_mem 1284 (by decide +kernel) rfl
theorem w_563bc7d7 : (Jvm.Cond.instanceMethod ({ cls := "VerseCommittee", name := "signOfAdded", desc := "(III)I" } : Jvm.MethodName)) ∈ BIG := big_mem 1499 (by decide +kernel) rfl
theorem w_5641d231 : (Jvm.Cond.code ({ cls := "VerseCommittee$Words", name := "size", desc := "()I" } : Jvm.MethodName) prog_12_method_2_code (1 : Nat) (Option.some Jvm.ClassFile.FieldType.int)) ∈ BIG := big_mem 1595 (by decide +kernel) rfl
theorem w_56449f8e : (Jvm.Cond.selects "VerseCommitteeModel" ({ cls := "VerseCommitteeModel", name := "quarrel", desc := "(III)I" } : Jvm.MethodName) ({ cls := "VerseCommitteeModel", name := "quarrel", desc := "(III)I" } : Jvm.MethodName)) ∈ BIG := big_mem 2240 (by decide +kernel) rfl
theorem w_5647178f : (Jvm.Cond.code ({ cls := "VerseCommittee$People", name := "scholars", desc := "()I" } : Jvm.MethodName) prog_6_method_3_code (1 : Nat) (Option.some Jvm.ClassFile.FieldType.int)) ∈ BIG := big_mem 1600 (by decide +kernel) rfl
theorem w_56704d8e : (Jvm.Cond.methodLink "VerseCommittee$Findings" (53 : Nat) ({ cls := "VerseCommittee$Rendering", name := "tokenRow", desc := "()[I" } : Jvm.MethodName)) ∈ BIG := big_mem 1225 (by decide +kernel) rfl
theorem w_5697f572 : (Jvm.Cond.selects "VerseCommitteeModel" ({ cls := "VerseCommitteeModel", name := "lists", desc := "()V" } : Jvm.MethodName) ({ cls := "VerseCommitteeModel", name := "lists", desc := "()V" } : Jvm.MethodName)) ∈ BIG := big_mem 142 (by decide +kernel) rfl
theorem w_5713a796 : (Jvm.Cond.selects "VerseCommittee$Choices" ({ cls := "VerseCommittee$Choices", name := "chooseOption", desc := "(III)V" } : Jvm.MethodName) ({ cls := "VerseCommittee$Choices", name := "chooseOption", desc := "(III)V" } : Jvm.MethodName)) ∈ BIG := big_mem 61 (by decide +kernel) rfl
theorem w_577cd970 : (Jvm.Cond.instanceMethod ({ cls := "VerseCommittee$Rendering", name := "<init>", desc := "(III[II)V" } : Jvm.MethodName)) ∈ BIG := big_mem 1024 (by decide +kernel) rfl
theorem w_578689b7 : (Jvm.Cond.instanceMethod ({ cls := "VerseCommittee$People", name := "companyOf", desc := "(I)I" } : Jvm.MethodName)) ∈ BIG := big_mem 855 (by decide +kernel) rfl
theorem w_578a983c : (Jvm.Cond.methodLink "VerseCommittee" (337 : Nat) ({ cls := "VerseCommittee$Verses", name := "measureOf", desc := "(I)I" } : Jvm.MethodName)) ∈ BIG := big_mem 1447 (by decide +kernel) rfl
theorem w_57923989 : (Jvm.Cond.code ({ cls := "VerseCommittee$Shelf", name := "setFixed", desc := "(III)V" } : Jvm.MethodName) prog_10_method_14_code (4 : Nat) (Option.none : Option Jvm.ClassFile.FieldType)) ∈ BIG := big_mem 1169 (by decide +kernel) rfl
theorem w_5796f0ec : (Jvm.Cond.selects "VerseCommittee$People" ({ cls := "VerseCommittee$People", name := "companyOf", desc := "(I)I" } : Jvm.MethodName) ({ cls := "VerseCommittee$People", name := "companyOf", desc := "(I)I" } : Jvm.MethodName)) ∈ BIG := big_mem 856 (by decide +kernel) rfl
theorem w_579f25d1 : (Jvm.Cond.selects "VerseCommittee$Laws" ({ cls := "VerseCommittee$Laws", name := "textOf", desc := "(I)[I" } : Jvm.MethodName) ({ cls := "VerseCommittee$Laws", name := "textOf", desc := "(I)[I" } : Jvm.MethodName)) ∈ BIG := big_mem 918 (by decide +kernel) rfl
theorem w_57a9cb60 : (Jvm.Cond.instanceMethod ({ cls := "VerseCommittee", name := "reads", desc := "(IIIZ)Z" } : Jvm.MethodName)) ∈ BIG := big_mem 1455 (by decide +kernel) rfl
theorem w_57af4bff : (Jvm.Cond.methodLink "VerseCommitteeLaw" (113 : Nat) ({ cls := "VerseCommitteeModel", name := "breach", desc := "(III)I" } : Jvm.MethodName)) ∈ BIG := big_mem 2234 (by decide +kernel) rfl
theorem w_57d8926e : (Jvm.Cond.methodLink "VerseCommittee$Findings" (126 : Nat) ({ cls := "VerseCommittee$Laws", name := "speaksOfAny", desc := "(I[I)Z" } : Jvm.MethodName)) ∈ BIG := big_mem 1240 (by decide +kernel) rfl
theorem w_57d97f93 : (Jvm.Cond.instanceMethod ({ cls := "VerseCommittee$Reckoner", name := "verdict", desc := "(I)I" } : Jvm.MethodName)) ∈ BIG := big_mem 906 (by decide +kernel) rfl
theorem w_583a5961 : (Jvm.Cond.methodLink "VerseCommittee$Words" (55 : Nat) ({ cls := "VerseCommittee$Words", name := "isSpelledSo", desc := "(I[II)Z" } : Jvm.MethodName)) ∈ BIG := big_mem 640 (by decide +kernel) rfl
theorem w_586dfefc : (Jvm.Cond.methodLink "VerseCommitteeModel" (560 : Nat) ({ cls := "VerseCommitteeModel", name := "lists", desc := "()V" } : Jvm.MethodName)) ∈ BIG := big_mem 2356 (by decide +kernel) rfl
theorem w_58710a4d : (Jvm.Cond.static ({ cls := "VerseCommitteeModel", name := "isVowel", desc := "(I)Z" } : Jvm.MethodName)) ∈ BIG := big_mem 1977 (by decide +kernel) rfl
theorem w_58cde53c : (Jvm.Cond.code ({ cls := "VerseCommittee$Findings", name := "markAlike", desc := "(II)Z" } : Jvm.MethodName) prog_3_method_13_code (7 : Nat) (Option.some Jvm.ClassFile.FieldType.boolean)) ∈ BIG := big_mem 1305 (by decide +kernel) rfl
theorem w_58f49e82 : (Jvm.Cond.methodLink "VerseCommitteeModel" (373 : Nat) ({ cls := "VerseCommitteeModel", name := "condition", desc := "()V" } : Jvm.MethodName)) ∈ BIG := big_mem 2039 (by decide +kernel) rfl
theorem w_59734bc8 : (Jvm.Cond.methodLink "VerseCommittee$Choices" (149 : Nat) ({ cls := "VerseCommittee$Laws", name := "speaksOfAny", desc := "(I[I)Z" } : Jvm.MethodName)) ∈ BIG := big_mem 1401 (by decide +kernel) rfl
theorem w_5987fd6f : (Jvm.Cond.methodLink "VerseCommitteeLaw" (122 : Nat) ({ cls := "VerseCommittee", name := "option", desc := "(II)Z" } : Jvm.MethodName)) ∈ BIG := big_mem 1334 (by decide +kernel) rfl
theorem w_59a63931 : (Jvm.Cond.code ({ cls := "VerseCommittee$Parser", name := "readComparison", desc := "()Z" } : Jvm.MethodName) prog_5_method_19_code (1 : Nat) (Option.some Jvm.ClassFile.FieldType.boolean)) ∈ BIG := big_mem 805 (by decide +kernel) rfl
theorem w_59a7a5a6 : (Jvm.Cond.instanceMethod ({ cls := "VerseCommittee$Rendering", name := "isTurnedByOnly", desc := "(II)Z" } : Jvm.MethodName)) ∈ BIG := big_mem 1252 (by decide +kernel) rfl
theorem w_59b56ab7 : (Jvm.Cond.code ({ cls := "VerseCommittee$Verses", name := "bookOf", desc := "(I)I" } : Jvm.MethodName) prog_11_method_5_code (2 : Nat) (Option.some Jvm.ClassFile.FieldType.int)) ∈ BIG := big_mem 849 (by decide +kernel) rfl
theorem w_59e9720e : (Jvm.Cond.methodLink "VerseCommitteeModel" (503 : Nat) ({ cls := "VerseCommitteeModel", name := "unlikes", desc := "(I)I" } : Jvm.MethodName)) ∈ BIG := big_mem 2254 (by decide +kernel) rfl
theorem w_5a22dd80 : (Jvm.Cond.methodLink "VerseCommittee" (189 : Nat) ({ cls := "VerseCommittee$Laws", name := "clauseOf", desc := "(II)I" } : Jvm.MethodName)) ∈ BIG := big_mem 904 (by decide +kernel) rfl
theorem w_5a3fb7f2 : (Jvm.Cond.selects "VerseCommittee" ({ cls := "VerseCommittee", name := "rules", desc := "(IIII)I" } : Jvm.MethodName) ({ cls := "VerseCommittee", name := "rules", desc := "(IIII)I" } : Jvm.MethodName)) ∈ BIG := big_mem 716 (by decide +kernel) rfl
theorem w_5a506732 : (Jvm.Cond.code ({ cls := "VerseCommittee$Parser", name := "readTurning", desc := "(I)Z" } : Jvm.MethodName) prog_5_method_9_code (5 : Nat) (Option.some Jvm.ClassFile.FieldType.boolean)) ∈ BIG := big_mem 753 (by decide +kernel) rfl
theorem w_5a5bfc68 : (Jvm.Cond.instanceMethod ({ cls := "VerseCommittee", name := "<init>", desc := "()V" } : Jvm.MethodName)) ∈ BIG := big_mem 167 (by decide +kernel) rfl
theorem w_5aaa2900 : (Jvm.Cond.methodLink "VerseCommittee$Verses" (3 : Nat) ({ cls := "java/lang/Object", name := "<init>", desc := "()V" } : Jvm.MethodName)) ∈ BIG := big_mem 195 (by decide +kernel) rfl
theorem w_5ae3b467 : (Jvm.Cond.code ({ cls := "VerseCommittee$Planner", name := "give", desc := "(II)V" } : Jvm.MethodName) prog_7_method_8_code (4 : Nat) (Option.none : Option Jvm.ClassFile.FieldType)) ∈ BIG := big_mem 1536 (by decide +kernel) rfl
theorem w_5aebf1e1 : (Jvm.Cond.code ({ cls := "VerseCommittee$Reckoner", name := "findCopy", desc := "()V" } : Jvm.MethodName) prog_8_method_10_code (5 : Nat) (Option.none : Option Jvm.ClassFile.FieldType)) ∈ BIG := big_mem 873 (by decide +kernel) rfl
theorem w_5aeeefc7 : (Jvm.Cond.instanceMethod ({ cls := "VerseCommittee$Shelf", name := "setFixed", desc := "(III)V" } : Jvm.MethodName)) ∈ BIG := big_mem 1168 (by decide +kernel) rfl
theorem w_5af96c7d : (Jvm.Cond.selects "VerseCommittee" ({ cls := "VerseCommittee", name := "quarrel", desc := "(III)I" } : Jvm.MethodName) ({ cls := "VerseCommittee", name := "quarrel", desc := "(III)I" } : Jvm.MethodName)) ∈ BIG := big_mem 1277 (by decide +kernel) rfl
theorem w_5b2695f9 : (Jvm.Cond.methodLink "VerseCommittee" (240 : Nat) ({ cls := "VerseCommittee$Shelf", name := "at", desc := "(I)LVerseCommittee$Rendering;" } : Jvm.MethodName)) ∈ BIG := big_mem 1084 (by decide +kernel) rfl
theorem w_5b4d447a : (Jvm.Cond.selects "VerseCommittee$Rendering" ({ cls := "VerseCommittee$Rendering", name := "fill", desc := "([II)V" } : Jvm.MethodName) ({ cls := "VerseCommittee$Rendering", name := "fill", desc := "([II)V" } : Jvm.MethodName)) ∈ BIG := big_mem 1073 (by decide +kernel) rfl
theorem w_5b4ef7a7 : (Jvm.Cond.instanceMethod ({ cls := "VerseCommitteeModel", name := "ends", desc := "()V" } : Jvm.MethodName)) ∈ BIG := big_mem 2089 (by decide +kernel) rfl
theorem w_5b6be411 : (Jvm.Cond.selects "VerseCommittee$Choices" ({ cls := "VerseCommittee$Choices", name := "leastPriced", desc := "()I" } : Jvm.MethodName) ({ cls := "VerseCommittee$Choices", name := "leastPriced", desc := "()I" } : Jvm.MethodName)) ∈ BIG := big_mem 1426 (by decide +kernel) rfl
theorem w_5bada49b : (Jvm.Cond.methodLink "VerseCommittee" (314 : Nat) ({ cls := "VerseCommittee$Choices", name := "enter", desc := "(II)Z" } : Jvm.MethodName)) ∈ BIG := big_mem 1341 (by decide +kernel) rfl
theorem w_5bbc6af9 : (Jvm.Cond.instanceMethod ({ cls := "VerseCommittee$Rendering", name := "becomeFixed", desc := "(I)V" } : Jvm.MethodName)) ∈ BIG := big_mem 1163 (by decide +kernel) rfl
theorem w_5bbfc01b : (Jvm.Cond.code ({ cls := "VerseCommittee$Shelf", name := "<init>", desc := "()V" } : Jvm.MethodName) prog_10_method_1_code (2 : Nat) (Option.none : Option Jvm.ClassFile.FieldType)) ∈ BIG := big_mem 293 (by decide +kernel) rfl
theorem w_5bc0ac41 : (Jvm.Cond.selects "VerseCommittee" ({ cls := "VerseCommittee", name := "one", desc := "()I" } : Jvm.MethodName) ({ cls := "VerseCommittee", name := "one", desc := "()I" } : Jvm.MethodName)) ∈ BIG := big_mem 1422 (by decide +kernel) rfl
theorem w_5be96fe8 : (Jvm.Cond.methodLink "VerseCommitteeModel" (304 : Nat) ({ cls := "VerseCommitteeModel", name := "seesDigit", desc := "()Z" } : Jvm.MethodName)) ∈ BIG := big_mem 2023 (by decide +kernel) rfl
theorem w_5c002ec1 : (Jvm.Cond.selects "VerseCommittee$Parser" ({ cls := "VerseCommittee$Parser", name := "clausesRead", desc := "()I" } : Jvm.MethodName) ({ cls := "VerseCommittee$Parser", name := "clausesRead", desc := "()I" } : Jvm.MethodName)) ∈ BIG := big_mem 824 (by decide +kernel) rfl
theorem w_5c12f139 : (Jvm.Cond.instanceMethod ({ cls := "VerseCommittee$Rendering", name := "isUnderVote", desc := "()Z" } : Jvm.MethodName)) ∈ BIG := big_mem 1089 (by decide +kernel) rfl
theorem w_5c3775e9 : (Jvm.Cond.instanceMethod ({ cls := "VerseCommittee$Shelf", name := "<init>", desc := "()V" } : Jvm.MethodName)) ∈ BIG := big_mem 292 (by decide +kernel) rfl
theorem w_5c4133ff : (Jvm.Cond.methodLink "VerseCommittee" (185 : Nat) ({ cls := "VerseCommittee$Reckoner", name := "aim", desc := "(II)V" } : Jvm.MethodName)) ∈ BIG := big_mem 842 (by decide +kernel) rfl
theorem w_5c5807ab : (Jvm.Cond.instanceMethod ({ cls := "VerseCommittee$Findings", name := "tellClause", desc := "(II)V" } : Jvm.MethodName)) ∈ BIG := big_mem 1257 (by decide +kernel) rfl
theorem w_5c5bd5d9 : (Jvm.Cond.instanceMethod ({ cls := "VerseCommittee$Choices", name := "placeOf", desc := "(I)I" } : Jvm.MethodName)) ∈ BIG := big_mem 1347 (by decide +kernel) rfl
theorem w_5c9255b3 : (Jvm.Cond.fieldLink "VerseCommittee$Findings" (33 : Nat) "VerseCommittee$Findings" "laws" "LVerseCommittee$Laws;") ∈ BIG := big_mem 405 (by decide +kernel) rfl
theorem w_5cb89095 : (Jvm.Cond.fieldLink "VerseCommittee$Laws" (13 : Nat) "VerseCommittee$Laws" "texts" "[[I") ∈ BIG := big_mem 255 (by decide +kernel) rfl
theorem w_5cef9fd8 : (Jvm.Cond.selects "VerseCommitteeModel" ({ cls := "VerseCommitteeModel", name := "company", desc := "(II)I" } : Jvm.MethodName) ({ cls := "VerseCommitteeModel", name := "company", desc := "(II)I" } : Jvm.MethodName)) ∈ BIG := big_mem 1981 (by decide +kernel) rfl
theorem w_5cfe18d9 : (Jvm.Cond.code ({ cls := "VerseCommitteeModel", name := "asks", desc := "(III)I" } : Jvm.MethodName) prog_14_method_58_code (4 : Nat) (Option.some Jvm.ClassFile.FieldType.int)) ∈ BIG := big_mem 2102 (by decide +kernel) rfl
theorem w_5d1ee182 : (Jvm.Cond.selects "VerseCommittee" ({ cls := "VerseCommittee", name := "tapeHas", desc := "(II)Z" } : Jvm.MethodName) ({ cls := "VerseCommittee", name := "tapeHas", desc := "(II)Z" } : Jvm.MethodName)) ∈ BIG := big_mem 1 (by decide +kernel) rfl
theorem w_5d3e8bdf : (Jvm.Cond.methodLink "VerseCommitteeModel" (469 : Nat) ({ cls := "VerseCommitteeModel", name := "isAsked", desc := "(III)Z" } : Jvm.MethodName)) ∈ BIG := big_mem 2246 (by decide +kernel) rfl
theorem w_5d8e51e0 : (Jvm.Cond.selects "VerseCommitteeModel" ({ cls := "VerseCommitteeModel", name := "readsRank", desc := "(I)V" } : Jvm.MethodName) ({ cls := "VerseCommitteeModel", name := "readsRank", desc := "(I)V" } : Jvm.MethodName)) ∈ BIG := big_mem 90 (by decide +kernel) rfl
theorem w_5d8ed636 : (Jvm.Cond.instanceMethod ({ cls := "VerseCommittee$Choices", name := "size", desc := "()I" } : Jvm.MethodName)) ∈ BIG := big_mem 1607 (by decide +kernel) rfl
theorem w_5dacf13f : (Jvm.Cond.selects "VerseCommittee$Laws" ({ cls := "VerseCommittee$Laws", name := "isOf", desc := "(II)Z" } : Jvm.MethodName) ({ cls := "VerseCommittee$Laws", name := "isOf", desc := "(II)Z" } : Jvm.MethodName)) ∈ BIG := big_mem 886 (by decide +kernel) rfl
theorem w_5dd80805 : (Jvm.Cond.fieldLink "VerseCommitteeModel" (126 : Nat) "VerseCommitteeModel" "rToken" "[I") ∈ BIG := big_mem 1680 (by decide +kernel) rfl
theorem w_5e0cc9b0 : (Jvm.Cond.methodLink "VerseCommitteeLaw" (49 : Nat) ({ cls := "VerseCommitteeModel", name := "company", desc := "(II)I" } : Jvm.MethodName)) ∈ BIG := big_mem 1979 (by decide +kernel) rfl
theorem w_5e2dcb75 : (Jvm.Cond.selects "VerseCommittee$Words" ({ cls := "VerseCommittee$Words", name := "vowelRows", desc := "(I)I" } : Jvm.MethodName) ({ cls := "VerseCommittee$Words", name := "vowelRows", desc := "(I)I" } : Jvm.MethodName)) ∈ BIG := big_mem 674 (by decide +kernel) rfl
theorem w_5e4a9718 : (Jvm.Cond.instanceMethod ({ cls := "VerseCommittee$Reckoner", name := "reckonPiece", desc := "(ZI)Z" } : Jvm.MethodName)) ∈ BIG := big_mem 931 (by decide +kernel) rfl
theorem w_5ea0abbc : (Jvm.Cond.instanceMethod ({ cls := "VerseCommitteeModel", name := "asks", desc := "(III)I" } : Jvm.MethodName)) ∈ BIG := big_mem 2100 (by decide +kernel) rfl
theorem w_5ed2e189 : (Jvm.Cond.fieldLink "VerseCommitteeModel" (186 : Nat) "VerseCommitteeModel" "costs" "[I") ∈ BIG := big_mem 1709 (by decide +kernel) rfl
theorem w_5eee2ffe : (Jvm.Cond.fieldLink "VerseCommittee$Laws" (20 : Nat) "VerseCommittee$Laws" "firstDays" "[I") ∈ BIG := big_mem 257 (by decide +kernel) rfl
theorem w_5f093b68 : (Jvm.Cond.code ({ cls := "VerseCommittee$Verses", name := "putRow", desc := "(II[II)V" } : Jvm.MethodName) prog_11_method_7_code (7 : Nat) (Option.none : Option Jvm.ClassFile.FieldType)) ∈ BIG := big_mem 621 (by decide +kernel) rfl
theorem w_5f51de32 : (Jvm.Cond.selects "VerseCommitteeModel" ({ cls := "VerseCommitteeModel", name := "judge", desc := "(I)I" } : Jvm.MethodName) ({ cls := "VerseCommitteeModel", name := "judge", desc := "(I)I" } : Jvm.MethodName)) ∈ BIG := big_mem 2377 (by decide +kernel) rfl
theorem w_5f61e1e3 : (Jvm.Cond.code ({ cls := "VerseCommitteeModel", name := "spells", desc := "(III)V" } : Jvm.MethodName) prog_14_method_15_code (6 : Nat) (Option.none : Option Jvm.ClassFile.FieldType)) ∈ BIG := big_mem 1959 (by decide +kernel) rfl
theorem w_5f7cd6a1 : (Jvm.Cond.code ({ cls := "VerseCommitteeModel", name := "judge", desc := "(I)I" } : Jvm.MethodName) prog_14_method_121_code (2 : Nat) (Option.some Jvm.ClassFile.FieldType.int)) ∈ BIG := big_mem 2378 (by decide +kernel) rfl
theorem w_5f8ae369 : (Jvm.Cond.methodLink "VerseCommitteeModel" (310 : Nat) ({ cls := "VerseCommitteeModel", name := "isTimes", desc := "(I)Z" } : Jvm.MethodName)) ∈ BIG := big_mem 2070 (by decide +kernel) rfl
theorem w_5fa1a7dc : (Jvm.Cond.fieldLink "VerseCommitteeModel" (497 : Nat) "VerseCommitteeModel" "twoB" "I") ∈ BIG := big_mem 1700 (by decide +kernel) rfl
theorem w_5fda620e : (Jvm.Cond.code ({ cls := "VerseCommitteeModel", name := "worked", desc := "(III)I" } : Jvm.MethodName) prog_14_method_60_code (3 : Nat) (Option.some Jvm.ClassFile.FieldType.int)) ∈ BIG := big_mem 2145 (by decide +kernel) rfl
theorem w_5fe7c7f7 : (Jvm.Cond.code ({ cls := "VerseCommittee", name := "word", desc := "(I)I" } : Jvm.MethodName) prog_1_method_6_code (3 : Nat) (Option.some Jvm.ClassFile.FieldType.int)) ∈ BIG := big_mem 627 (by decide +kernel) rfl
theorem w_5fedb2a3 : (Jvm.Cond.fieldLink "VerseCommitteeModel" (17 : Nat) "VerseCommitteeModel" "measure" "[I") ∈ BIG := big_mem 1635 (by decide +kernel) rfl
theorem w_60140e5c : (Jvm.Cond.instanceMethod ({ cls := "VerseCommitteeModel", name := "opens", desc := "()V" } : Jvm.MethodName)) ∈ BIG := big_mem 2045 (by decide +kernel) rfl
theorem w_603f5662 : (Jvm.Cond.methodLink "VerseCommitteeLaw" (121 : Nat) ({ cls := "VerseCommitteeModel", name := "unlike", desc := "(II)I" } : Jvm.MethodName)) ∈ BIG := big_mem 2250 (by decide +kernel) rfl
theorem w_60a404cb : (Jvm.Cond.methodLink "VerseCommittee$Parser" (51 : Nat) ({ cls := "VerseCommittee$Parser", name := "fail", desc := "(II)Z" } : Jvm.MethodName)) ∈ BIG := big_mem 734 (by decide +kernel) rfl
theorem w_60c94b15 : (Jvm.Cond.code ({ cls := "VerseCommittee$Planner", name := "mayHave", desc := "(II)Z" } : Jvm.MethodName) prog_7_method_7_code (3 : Nat) (Option.some Jvm.ClassFile.FieldType.boolean)) ∈ BIG := big_mem 1544 (by decide +kernel) rfl
theorem w_60da40ad : (Jvm.Cond.methodLink "VerseCommitteeLaw" (168 : Nat) ({ cls := "VerseCommitteeModel", name := "judge", desc := "(I)I" } : Jvm.MethodName)) ∈ BIG := big_mem 2375 (by decide +kernel) rfl
theorem w_6114238b : (Jvm.Cond.fieldLink "VerseCommitteeModel" (463 : Nat) "VerseCommitteeModel" "foundToken" "I") ∈ BIG := big_mem 1697 (by decide +kernel) rfl
theorem w_612ad2d4 : (Jvm.Cond.instanceMethod ({ cls := "VerseCommitteeModel", name := "unfixes", desc := "(I)V" } : Jvm.MethodName)) ∈ BIG := big_mem 2204 (by decide +kernel) rfl
theorem w_61792530 : (Jvm.Cond.code ({ cls := "VerseCommittee$Rendering", name := "leftBits", desc := "()I" } : Jvm.MethodName) prog_9_method_25_code (3 : Nat) (Option.some Jvm.ClassFile.FieldType.int)) ∈ BIG := big_mem 1582 (by decide +kernel) rfl
theorem w_61944dea : (Jvm.Cond.fieldLink "VerseCommitteeModel" (57 : Nat) "VerseCommitteeModel" "ruleFrom" "[I") ∈ BIG := big_mem 1648 (by decide +kernel) rfl
theorem w_62163fe6 : (Jvm.Cond.selects "VerseCommittee$Verses" ({ cls := "VerseCommittee$Verses", name := "size", desc := "()I" } : Jvm.MethodName) ({ cls := "VerseCommittee$Verses", name := "size", desc := "()I" } : Jvm.MethodName)) ∈ BIG := big_mem 1299 (by decide +kernel) rfl
theorem w_621a9fd4 : (Jvm.Cond.instanceMethod ({ cls := "VerseCommitteeModel", name := "isOwn", desc := "(II)Z" } : Jvm.MethodName)) ∈ BIG := big_mem 1954 (by decide +kernel) rfl
theorem w_622a9066 : (Jvm.Cond.instanceMethod ({ cls := "VerseCommittee$Parser", name := "readOpening", desc := "(I)Z" } : Jvm.MethodName)) ∈ BIG := big_mem 783 (by decide +kernel) rfl
theorem w_6230bdf9 : (Jvm.Cond.code ({ cls := "VerseCommittee$Findings", name := "seen", desc := "()I" } : Jvm.MethodName) prog_3_method_2_code (1 : Nat) (Option.some Jvm.ClassFile.FieldType.int)) ∈ BIG := big_mem 1266 (by decide +kernel) rfl
theorem w_6254679c : (Jvm.Cond.instanceMethod ({ cls := "VerseCommittee$Words", name := "put", desc := "(I[II)V" } : Jvm.MethodName)) ∈ BIG := big_mem 646 (by decide +kernel) rfl
theorem w_625faaf9 : (Jvm.Cond.code ({ cls := "VerseCommittee", name := "plan", desc := "(I)I" } : Jvm.MethodName) prog_1_method_36_code (2 : Nat) (Option.some Jvm.ClassFile.FieldType.int)) ∈ BIG := big_mem 1509 (by decide +kernel) rfl
theorem w_629655df : (Jvm.Cond.fieldLink "VerseCommittee$Reckoner" (102 : Nat) "VerseCommittee$Reckoner" "refused" "Z") ∈ BIG := big_mem 369 (by decide +kernel) rfl
theorem w_62b4f508 : (Jvm.Cond.methodLink "VerseCommitteeLaw" (38 : Nat) ({ cls := "VerseCommittee", name := "spell", desc := "(III)Z" } : Jvm.MethodName)) ∈ BIG := big_mem 651 (by decide +kernel) rfl
theorem w_6325bd97 : (Jvm.Cond.code ({ cls := "VerseCommittee", name := "centre", desc := "(I)Z" } : Jvm.MethodName) prog_1_method_10_code (2 : Nat) (Option.some Jvm.ClassFile.FieldType.boolean)) ∈ BIG := big_mem 696 (by decide +kernel) rfl
theorem w_632fd751 : (Jvm.Cond.code ({ cls := "VerseCommittee$People", name := "hasScholar", desc := "(I)Z" } : Jvm.MethodName) prog_6_method_5_code (2 : Nat) (Option.some Jvm.ClassFile.FieldType.boolean)) ∈ BIG := big_mem 1008 (by decide +kernel) rfl
theorem w_63c66cfb : (Jvm.Cond.instanceMethod ({ cls := "VerseCommittee$People", name := "enterScholar", desc := "(IZ)I" } : Jvm.MethodName)) ∈ BIG := big_mem 710 (by decide +kernel) rfl
theorem w_63eab92c : (Jvm.Cond.selects "VerseCommitteeModel" ({ cls := "VerseCommitteeModel", name := "isOff", desc := "(I)Z" } : Jvm.MethodName) ({ cls := "VerseCommitteeModel", name := "isOff", desc := "(I)Z" } : Jvm.MethodName)) ∈ BIG := big_mem 140 (by decide +kernel) rfl
theorem w_640020a8 : (Jvm.Cond.fieldLink "VerseCommittee$Choices" (51 : Nat) "VerseCommittee$Choices" "size" "I") ∈ BIG := big_mem 463 (by decide +kernel) rfl
theorem w_641faa25 : (Jvm.Cond.fieldLink "VerseCommitteeModel" (506 : Nat) "VerseCommitteeModel" "signs" "I") ∈ BIG := big_mem 1704 (by decide +kernel) rfl
theorem w_645ce3ce : (Jvm.Cond.instanceMethod ({ cls := "VerseCommittee$Rendering", name := "enterState", desc := "(I)V" } : Jvm.MethodName)) ∈ BIG := big_mem 1159 (by decide +kernel) rfl
theorem w_6489636a : (Jvm.Cond.methodLink "VerseCommittee$People" (41 : Nat) ({ cls := "VerseCommittee$People", name := "hasBook", desc := "(II)Z" } : Jvm.MethodName)) ∈ BIG := big_mem 858 (by decide +kernel) rfl
theorem w_64963d05 : (Jvm.Cond.constant "VerseCommittee$Planner" (44 : Nat) (2147483647 : Int32)) ∈ BIG := big_mem 1521 (by decide +kernel) rfl
theorem w_64e3844b : (Jvm.Cond.initialized "VerseCommittee$Parser") ∈ BIG := big_mem 155 (by decide +kernel) rfl
theorem w_6502be60 : (Jvm.Cond.selects "VerseCommitteeModel" ({ cls := "VerseCommitteeModel", name := "breaches", desc := "(I)I" } : Jvm.MethodName) ({ cls := "VerseCommitteeModel", name := "breaches", desc := "(I)I" } : Jvm.MethodName)) ∈ BIG := big_mem 2220 (by decide +kernel) rfl
theorem w_651f519a : (Jvm.Cond.methodLink "VerseCommitteeModel" (340 : Nat) ({ cls := "VerseCommitteeModel", name := "factor", desc := "()V" } : Jvm.MethodName)) ∈ BIG := big_mem 2055 (by decide +kernel) rfl
theorem w_6537323b : (Jvm.Cond.selects "VerseCommittee$Verses" ({ cls := "VerseCommittee$Verses", name := "missedBits", desc := "(I)I" } : Jvm.MethodName) ({ cls := "VerseCommittee$Verses", name := "missedBits", desc := "(I)I" } : Jvm.MethodName)) ∈ BIG := big_mem 1468 (by decide +kernel) rfl
theorem w_654dca64 : (Jvm.Cond.selects "VerseCommitteeModel" ({ cls := "VerseCommitteeModel", name := "now", desc := "(I)Z" } : Jvm.MethodName) ({ cls := "VerseCommitteeModel", name := "now", desc := "(I)Z" } : Jvm.MethodName)) ∈ BIG := big_mem 1915 (by decide +kernel) rfl
theorem w_65d1ac8e : (Jvm.Cond.instanceMethod ({ cls := "VerseCommittee$Findings", name := "addPlaces", desc := "(I[I)V" } : Jvm.MethodName)) ∈ BIG := big_mem 1308 (by decide +kernel) rfl
theorem w_65ecb956 : (Jvm.Cond.methodLink "VerseCommitteeLaw" (94 : Nat) ({ cls := "VerseCommittee", name := "voids", desc := "(I)I" } : Jvm.MethodName)) ∈ BIG := big_mem 1175 (by decide +kernel) rfl
theorem w_65f1b0ce : (Jvm.Cond.selects "VerseCommittee" ({ cls := "VerseCommittee", name := "cost", desc := "(I)I" } : Jvm.MethodName) ({ cls := "VerseCommittee", name := "cost", desc := "(I)I" } : Jvm.MethodName)) ∈ BIG := big_mem 1367 (by decide +kernel) rfl
theorem w_6671b166 : (Jvm.Cond.selects "VerseCommitteeModel" ({ cls := "VerseCommitteeModel", name := "token", desc := "(III)I" } : Jvm.MethodName) ({ cls := "VerseCommitteeModel", name := "token", desc := "(III)I" } : Jvm.MethodName)) ∈ BIG := big_mem 1942 (by decide +kernel) rfl
theorem w_66738380 : (Jvm.Cond.selects "VerseCommitteeModel" ({ cls := "VerseCommitteeModel", name := "fixedOn", desc := "(II)I" } : Jvm.MethodName) ({ cls := "VerseCommitteeModel", name := "fixedOn", desc := "(II)I" } : Jvm.MethodName)) ∈ BIG := big_mem 2212 (by decide +kernel) rfl
theorem w_669947bc : (Jvm.Cond.instanceMethod ({ cls := "VerseCommitteeModel", name := "word", desc := "(I)I" } : Jvm.MethodName)) ∈ BIG := big_mem 1945 (by decide +kernel) rfl
theorem w_66b4e743 : (Jvm.Cond.code ({ cls := "VerseCommittee", name := "syllables", desc := "(I)I" } : Jvm.MethodName) prog_1_method_8_code (2 : Nat) (Option.some Jvm.ClassFile.FieldType.int)) ∈ BIG := big_mem 671 (by decide +kernel) rfl
theorem w_66bc80ef : (Jvm.Cond.methodLink "VerseCommittee$Choices" (81 : Nat) ({ cls := "VerseCommittee$Choices", name := "chosen", desc := "(I)I" } : Jvm.MethodName)) ∈ BIG := big_mem 1416 (by decide +kernel) rfl
theorem w_66d7c2d2 : (Jvm.Cond.methodLink "VerseCommitteeModel" (301 : Nat) ({ cls := "VerseCommitteeModel", name := "puts", desc := "(I)V" } : Jvm.MethodName)) ∈ BIG := big_mem 2047 (by decide +kernel) rfl
theorem w_671c087e : (Jvm.Cond.selects "VerseCommittee$Parser" ({ cls := "VerseCommittee$Parser", name := "readTurning", desc := "(I)Z" } : Jvm.MethodName) ({ cls := "VerseCommittee$Parser", name := "readTurning", desc := "(I)Z" } : Jvm.MethodName)) ∈ BIG := big_mem 10 (by decide +kernel) rfl
theorem w_676295d7 : (Jvm.Cond.instanceMethod ({ cls := "VerseCommitteeModel", name := "placeOf", desc := "(I)I" } : Jvm.MethodName)) ∈ BIG := big_mem 2280 (by decide +kernel) rfl
theorem w_6765c15f : (Jvm.Cond.methodLink "VerseCommittee$Parser" (114 : Nat) ({ cls := "VerseCommittee$Parser", name := "isTermSign", desc := "()Z" } : Jvm.MethodName)) ∈ BIG := big_mem 798 (by decide +kernel) rfl
theorem w_678ef940 : (Jvm.Cond.methodLink "VerseCommitteeModel" (424 : Nat) ({ cls := "VerseCommitteeModel", name := "isRendering", desc := "(I)Z" } : Jvm.MethodName)) ∈ BIG := big_mem 2170 (by decide +kernel) rfl
theorem w_67afcbd5 : (Jvm.Cond.code ({ cls := "VerseCommittee$People", name := "rateOf", desc := "(I)I" } : Jvm.MethodName) prog_6_method_13_code (2 : Nat) (Option.some Jvm.ClassFile.FieldType.int)) ∈ BIG := big_mem 1549 (by decide +kernel) rfl
theorem w_67bb4cdb : (Jvm.Cond.fieldLink "VerseCommittee$Parser" (22 : Nat) "VerseCommittee$Parser" "clausesRead" "I") ∈ BIG := big_mem 333 (by decide +kernel) rfl
theorem w_6833d132 : (Jvm.Cond.instanceMethod ({ cls := "VerseCommittee$People", name := "<init>", desc := "()V" } : Jvm.MethodName)) ∈ BIG := big_mem 220 (by decide +kernel) rfl
theorem w_68941487 : (Jvm.Cond.code ({ cls := "VerseCommittee$Laws", name := "putMeaning", desc := "(IIII)V" } : Jvm.MethodName) prog_4_method_10_code (6 : Nat) (Option.none : Option Jvm.ClassFile.FieldType)) ∈ BIG := big_mem 749 (by decide +kernel) rfl
theorem w_68b45229 : (Jvm.Cond.instanceMethod ({ cls := "VerseCommittee", name := "breaches", desc := "(I)I" } : Jvm.MethodName)) ∈ BIG := big_mem 1218 (by decide +kernel) rfl
theorem w_68ce3fdb : (Jvm.Cond.fieldLink "VerseCommitteeModel" (281 : Nat) "VerseCommitteeModel" "rules" "I") ∈ BIG := big_mem 1631 (by decide +kernel) rfl
theorem w_68ea8f5d : (Jvm.Cond.instanceMethod ({ cls := "VerseCommitteeModel", name := "missed", desc := "(I)I" } : Jvm.MethodName)) ∈ BIG := big_mem 2334 (by decide +kernel) rfl
theorem w_690ba5ec : (Jvm.Cond.code ({ cls := "VerseCommittee", name := "changes", desc := "(III)I" } : Jvm.MethodName) prog_1_method_34_code (4 : Nat) (Option.some Jvm.ClassFile.FieldType.int)) ∈ BIG := big_mem 1474 (by decide +kernel) rfl
theorem w_69522f21 : (Jvm.Cond.methodLink "VerseCommittee$Findings" (63 : Nat) ({ cls := "VerseCommittee$Findings", name := "gatherHeld", desc := "(II[I)V" } : Jvm.MethodName)) ∈ BIG := big_mem 1230 (by decide +kernel) rfl
theorem w_695f5bab : (Jvm.Cond.code ({ cls := "VerseCommitteeModel", name := "render", desc := "(III)I" } : Jvm.MethodName) prog_14_method_67_code (8 : Nat) (Option.some Jvm.ClassFile.FieldType.int)) ∈ BIG := big_mem 2161 (by decide +kernel) rfl
theorem w_6988260b : (Jvm.Cond.instanceMethod ({ cls := "VerseCommittee$People", name := "centreRate", desc := "()I" } : Jvm.MethodName)) ∈ BIG := big_mem 1527 (by decide +kernel) rfl
theorem w_69e312c4 : (Jvm.Cond.instanceMethod ({ cls := "VerseCommittee$Findings", name := "seen", desc := "()I" } : Jvm.MethodName)) ∈ BIG := big_mem 1264 (by decide +kernel) rfl
theorem w_6a5d06c2 : (Jvm.Cond.methodLink "VerseCommittee" (393 : Nat) ({ cls := "VerseCommittee$Shelf", name := "size", desc := "()I" } : Jvm.MethodName)) ∈ BIG := big_mem 1602 (by decide +kernel) rfl
theorem w_6a8d70fa : (Jvm.Cond.selects "VerseCommitteeModel" ({ cls := "VerseCommitteeModel", name := "costOf", desc := "(I)I" } : Jvm.MethodName) ({ cls := "VerseCommitteeModel", name := "costOf", desc := "(I)I" } : Jvm.MethodName)) ∈ BIG := big_mem 138 (by decide +kernel) rfl
theorem w_6a914f00 : (Jvm.Cond.methodLink "VerseCommitteeModel" (475 : Nat) ({ cls := "VerseCommitteeModel", name := "quarrelsOf", desc := "(II)I" } : Jvm.MethodName)) ∈ BIG := big_mem 2242 (by decide +kernel) rfl
theorem w_6aabcebe : (Jvm.Cond.instanceMethod ({ cls := "VerseCommittee", name := "source", desc := "(III)Z" } : Jvm.MethodName)) ∈ BIG := big_mem 600 (by decide +kernel) rfl
theorem w_6ab0470f : (Jvm.Cond.instanceMethod ({ cls := "VerseCommittee$Parser", name := "readSum", desc := "(I)Z" } : Jvm.MethodName)) ∈ BIG := big_mem 787 (by decide +kernel) rfl
theorem w_6ad27377 : (Jvm.Cond.methodLink "VerseCommittee$Planner" (98 : Nat) ({ cls := "VerseCommittee$Planner", name := "giveTo", desc := "(III)V" } : Jvm.MethodName)) ∈ BIG := big_mem 1550 (by decide +kernel) rfl
theorem w_6b77f456 : (Jvm.Cond.fieldLink "VerseCommittee$Verses" (23 : Nat) "VerseCommittee$Verses" "told" "[I") ∈ BIG := big_mem 201 (by decide +kernel) rfl
theorem w_6bda4739 : (Jvm.Cond.instanceMethod ({ cls := "VerseCommittee", name := "feed", desc := "(IIIII)I" } : Jvm.MethodName)) ∈ BIG := big_mem 584 (by decide +kernel) rfl
theorem w_6be5063a : (Jvm.Cond.methodLink "VerseCommittee$Laws" (63 : Nat) ({ cls := "VerseCommittee$Laws", name := "isNumber", desc := "(I)Z" } : Jvm.MethodName)) ∈ BIG := big_mem 888 (by decide +kernel) rfl
theorem w_6bfa585c : (Jvm.Cond.fieldLink "VerseCommittee$Verses" (26 : Nat) "VerseCommittee$Verses" "wrong" "[I") ∈ BIG := big_mem 202 (by decide +kernel) rfl
theorem w_6c0c60eb : (Jvm.Cond.selects "VerseCommitteeModel" ({ cls := "VerseCommitteeModel", name := "readsNumber", desc := "(I)I" } : Jvm.MethodName) ({ cls := "VerseCommitteeModel", name := "readsNumber", desc := "(I)I" } : Jvm.MethodName)) ∈ BIG := big_mem 87 (by decide +kernel) rfl
theorem w_6c2ea05a : (Jvm.Cond.code ({ cls := "VerseCommittee$Rendering", name := "tell", desc := "(I)I" } : Jvm.MethodName) prog_9_method_26_code (2 : Nat) (Option.some Jvm.ClassFile.FieldType.int)) ∈ BIG := big_mem 1578 (by decide +kernel) rfl
theorem w_6c369cac : (Jvm.Cond.methodLink "VerseCommitteeModel" (242 : Nat) ({ cls := "VerseCommitteeModel", name := "spells", desc := "(III)V" } : Jvm.MethodName)) ∈ BIG := big_mem 1956 (by decide +kernel) rfl
theorem w_6c3ff485 : (Jvm.Cond.selects "VerseCommittee$Reckoner" ({ cls := "VerseCommittee$Reckoner", name := "lastInForce", desc := "(II)I" } : Jvm.MethodName) ({ cls := "VerseCommittee$Reckoner", name := "lastInForce", desc := "(II)I" } : Jvm.MethodName)) ∈ BIG := big_mem 27 (by decide +kernel) rfl
theorem w_6c58156a : (Jvm.Cond.code ({ cls := "VerseCommitteeModel", name := "condition", desc := "()V" } : Jvm.MethodName) prog_14_method_47_code (2 : Nat) (Option.none : Option Jvm.ClassFile.FieldType)) ∈ BIG := big_mem 2042 (by decide +kernel) rfl
theorem w_6c72e541 : (Jvm.Cond.methodLink "VerseCommittee" (237 : Nat) ({ cls := "VerseCommittee$Shelf", name := "enter", desc := "(LVerseCommittee$Rendering;)I" } : Jvm.MethodName)) ∈ BIG := big_mem 1075 (by decide +kernel) rfl
theorem w_6caab7c8 : (Jvm.Cond.code ({ cls := "VerseCommittee$Planner", name := "answer", desc := "(I)I" } : Jvm.MethodName) prog_7_method_2_code (3 : Nat) (Option.some Jvm.ClassFile.FieldType.int)) ∈ BIG := big_mem 1513 (by decide +kernel) rfl
theorem w_6ce2d7e7 : (Jvm.Cond.methodLink "VerseCommitteeModel" (427 : Nat) ({ cls := "VerseCommitteeModel", name := "isOpen", desc := "(I)Z" } : Jvm.MethodName)) ∈ BIG := big_mem 2166 (by decide +kernel) rfl
theorem w_6d28cdbf : (Jvm.Cond.methodLink "VerseCommittee" (376 : Nat) ({ cls := "VerseCommittee$Planner", name := "daysOf", desc := "(I)I" } : Jvm.MethodName)) ∈ BIG := big_mem 1559 (by decide +kernel) rfl
theorem w_6d660715 : (Jvm.Cond.code ({ cls := "VerseCommittee$Verses", name := "recordReader", desc := "(IIIZ)V" } : Jvm.MethodName) prog_11_method_9_code (6 : Nat) (Option.none : Option Jvm.ClassFile.FieldType)) ∈ BIG := big_mem 1461 (by decide +kernel) rfl
theorem w_6db83eae : (Jvm.Cond.selects "VerseCommittee$Parser" ({ cls := "VerseCommittee$Parser", name := "sign", desc := "()I" } : Jvm.MethodName) ({ cls := "VerseCommittee$Parser", name := "sign", desc := "()I" } : Jvm.MethodName)) ∈ BIG := big_mem 8 (by decide +kernel) rfl
theorem w_6ddcfc29 : (Jvm.Cond.methodLink "VerseCommittee$Findings" (78 : Nat) ({ cls := "VerseCommittee$Rendering", name := "isTurnedByOnly", desc := "(II)Z" } : Jvm.MethodName)) ∈ BIG := big_mem 1251 (by decide +kernel) rfl
theorem w_6e07ec7c : (Jvm.Cond.methodLink "VerseCommitteeLaw" (98 : Nat) ({ cls := "VerseCommittee", name := "fixed", desc := "(I)I" } : Jvm.MethodName)) ∈ BIG := big_mem 1200 (by decide +kernel) rfl
theorem w_6e16c1a3 : (Jvm.Cond.code ({ cls := "VerseCommittee", name := "printed", desc := "(III)I" } : Jvm.MethodName) prog_1_method_35_code (9 : Nat) (Option.some Jvm.ClassFile.FieldType.int)) ∈ BIG := big_mem 1487 (by decide +kernel) rfl
theorem w_6eecbd5a : (Jvm.Cond.code ({ cls := "VerseCommittee", name := "vote", desc := "(IIZ)Z" } : Jvm.MethodName) prog_1_method_18_code (5 : Nat) (Option.some Jvm.ClassFile.FieldType.boolean)) ∈ BIG := big_mem 1083 (by decide +kernel) rfl
theorem w_6eff2b84 : (Jvm.Cond.selects "VerseCommittee$People" ({ cls := "VerseCommittee$People", name := "scholars", desc := "()I" } : Jvm.MethodName) ({ cls := "VerseCommittee$People", name := "scholars", desc := "()I" } : Jvm.MethodName)) ∈ BIG := big_mem 1599 (by decide +kernel) rfl
theorem w_6f37a803 : (Jvm.Cond.code ({ cls := "VerseCommittee", name := "isEdition", desc := "(I)Z" } : Jvm.MethodName) prog_1_method_45_code (1 : Nat) (Option.some Jvm.ClassFile.FieldType.boolean)) ∈ BIG := big_mem 657 (by decide +kernel) rfl
theorem w_6f63da2f : (Jvm.Cond.fieldLink "VerseCommitteeModel" (180 : Nat) "VerseCommitteeModel" "option" "[I") ∈ BIG := big_mem 1707 (by decide +kernel) rfl
theorem w_6f6c7130 : (Jvm.Cond.code ({ cls := "VerseCommittee$Findings", name := "seekQuarrel", desc := "(III)Z" } : Jvm.MethodName) prog_3_method_5_code (7 : Nat) (Option.some Jvm.ClassFile.FieldType.boolean)) ∈ BIG := big_mem 1282 (by decide +kernel) rfl
theorem w_6f97fd5b : (Jvm.Cond.code ({ cls := "VerseCommittee", name := "render", desc := "(III)I" } : Jvm.MethodName) prog_1_method_17_code (6 : Nat) (Option.some Jvm.ClassFile.FieldType.int)) ∈ BIG := big_mem 1004 (by decide +kernel) rfl
theorem w_6fa20ebf : (Jvm.Cond.fieldLink "VerseCommittee$Laws" (32 : Nat) "VerseCommittee$Laws" "subjects" "[I") ∈ BIG := big_mem 261 (by decide +kernel) rfl
theorem w_6fa4f8f0 : (Jvm.Cond.selects "VerseCommittee" ({ cls := "VerseCommittee", name := "render", desc := "(III)I" } : Jvm.MethodName) ({ cls := "VerseCommittee", name := "render", desc := "(III)I" } : Jvm.MethodName)) ∈ BIG := big_mem 1003 (by decide +kernel) rfl
theorem w_6facf77d : (Jvm.Cond.code ({ cls := "VerseCommittee$Shelf", name := "mayBeFixed", desc := "(III)Z" } : Jvm.MethodName) prog_10_method_11_code (5 : Nat) (Option.some Jvm.ClassFile.FieldType.boolean)) ∈ BIG := big_mem 1135 (by decide +kernel) rfl
theorem w_6fc13e8c : (Jvm.Cond.fieldLink "VerseCommitteeModel" (141 : Nat) "VerseCommitteeModel" "yes" "[I") ∈ BIG := big_mem 1685 (by decide +kernel) rfl
theorem w_6fccdd45 : (Jvm.Cond.selects "VerseCommittee$Choices" ({ cls := "VerseCommittee$Choices", name := "arePart", desc := "(II)Z" } : Jvm.MethodName) ({ cls := "VerseCommittee$Choices", name := "arePart", desc := "(II)Z" } : Jvm.MethodName)) ∈ BIG := big_mem 53 (by decide +kernel) rfl
theorem w_6fcfb92a : (Jvm.Cond.selects "VerseCommitteeModel" ({ cls := "VerseCommitteeModel", name := "vote", desc := "(IIZ)Z" } : Jvm.MethodName) ({ cls := "VerseCommitteeModel", name := "vote", desc := "(IIZ)Z" } : Jvm.MethodName)) ∈ BIG := big_mem 2164 (by decide +kernel) rfl
theorem w_6fe33dc9 : (Jvm.Cond.fieldLink "VerseCommittee$Choices" (18 : Nat) "VerseCommittee$Choices" "options" "[I") ∈ BIG := big_mem 458 (by decide +kernel) rfl
theorem w_6ffe30d9 : (Jvm.Cond.selects "VerseCommitteeModel" ({ cls := "VerseCommitteeModel", name := "isChoice", desc := "(I)Z" } : Jvm.MethodName) ({ cls := "VerseCommitteeModel", name := "isChoice", desc := "(I)Z" } : Jvm.MethodName)) ∈ BIG := big_mem 134 (by decide +kernel) rfl
theorem w_7030d712 : (Jvm.Cond.fieldLink "VerseCommittee$People" (25 : Nat) "VerseCommittee$People" "scholars" "I") ∈ BIG := big_mem 229 (by decide +kernel) rfl
theorem w_7085ee7b : (Jvm.Cond.code ({ cls := "VerseCommittee", name := "tapeHasSlots", desc := "(II)Z" } : Jvm.MethodName) prog_1_method_51_code (5 : Nat) (Option.some Jvm.ClassFile.FieldType.boolean)) ∈ BIG := big_mem 1020 (by decide +kernel) rfl
theorem w_70b476c3 : (Jvm.Cond.code ({ cls := "VerseCommittee$Rendering", name := "tokenRow", desc := "()[I" } : Jvm.MethodName) prog_9_method_5_code (1 : Nat) (Option.some (Jvm.ClassFile.FieldType.array Jvm.ClassFile.FieldType.int))) ∈ BIG := big_mem 1228 (by decide +kernel) rfl
theorem w_70fcad1d : (Jvm.Cond.instanceMethod ({ cls := "VerseCommitteeModel", name := "emit", desc := "(II)V" } : Jvm.MethodName)) ∈ BIG := big_mem 2061 (by decide +kernel) rfl
theorem w_710e8868 : (Jvm.Cond.methodLink "VerseCommittee" (299 : Nat) ({ cls := "VerseCommittee$Findings", name := "seen", desc := "()I" } : Jvm.MethodName)) ∈ BIG := big_mem 1263 (by decide +kernel) rfl
theorem w_7118a7bd : (Jvm.Cond.code ({ cls := "VerseCommitteeModel", name := "printed", desc := "(III)I" } : Jvm.MethodName) prog_14_method_114_code (8 : Nat) (Option.some Jvm.ClassFile.FieldType.int)) ∈ BIG := big_mem 2347 (by decide +kernel) rfl
theorem w_7134dd81 : (Jvm.Cond.code ({ cls := "VerseCommittee$People", name := "enterScholar", desc := "(IZ)I" } : Jvm.MethodName) prog_6_method_7_code (4 : Nat) (Option.some Jvm.ClassFile.FieldType.int)) ∈ BIG := big_mem 712 (by decide +kernel) rfl
theorem w_717b2dad : (Jvm.Cond.code ({ cls := "VerseCommitteeModel", name := "isDay", desc := "(I)Z" } : Jvm.MethodName) prog_14_method_6_code (2 : Nat) (Option.some Jvm.ClassFile.FieldType.boolean)) ∈ BIG := big_mem 1998 (by decide +kernel) rfl
theorem w_71a29a11 : (Jvm.Cond.fieldLink "VerseCommitteeModel" (287 : Nat) "VerseCommitteeModel" "depth" "I") ∈ BIG := big_mem 1665 (by decide +kernel) rfl
theorem w_71cd4962 : (Jvm.Cond.methodLink "VerseCommitteeLaw" (37 : Nat) ({ cls := "VerseCommitteeModel", name := "word", desc := "(I)I" } : Jvm.MethodName)) ∈ BIG := big_mem 1944 (by decide +kernel) rfl
theorem w_71d00d9d : (Jvm.Cond.methodLink "VerseCommittee" (357 : Nat) ({ cls := "VerseCommittee$Rendering", name := "turnAt", desc := "(I)I" } : Jvm.MethodName)) ∈ BIG := big_mem 1488 (by decide +kernel) rfl
theorem w_71f1c1ea : (Jvm.Cond.selects "VerseCommittee$Choices" ({ cls := "VerseCommittee$Choices", name := "size", desc := "()I" } : Jvm.MethodName) ({ cls := "VerseCommittee$Choices", name := "size", desc := "()I" } : Jvm.MethodName)) ∈ BIG := big_mem 1608 (by decide +kernel) rfl
theorem w_726f3238 : (Jvm.Cond.selects "VerseCommittee$Laws" ({ cls := "VerseCommittee$Laws", name := "putDays", desc := "(III)V" } : Jvm.MethodName) ({ cls := "VerseCommittee$Laws", name := "putDays", desc := "(III)V" } : Jvm.MethodName)) ∈ BIG := big_mem 820 (by decide +kernel) rfl
theorem w_72a913df : (Jvm.Cond.instanceMethod ({ cls := "VerseCommittee$Reckoner", name := "reckonSum", desc := "(ZI)I" } : Jvm.MethodName)) ∈ BIG := big_mem 939 (by decide +kernel) rfl
theorem w_72c75e76 : (Jvm.Cond.methodLink "VerseCommittee" (113 : Nat) ({ cls := "VerseCommittee$Verses", name := "has", desc := "(I)Z" } : Jvm.MethodName)) ∈ BIG := big_mem 603 (by decide +kernel) rfl
theorem w_733f5130 : (Jvm.Cond.instanceMethod ({ cls := "VerseCommittee$Reckoner", name := "firstCopy", desc := "()I" } : Jvm.MethodName)) ∈ BIG := big_mem 976 (by decide +kernel) rfl
theorem w_735cc990 : (Jvm.Cond.code ({ cls := "VerseCommitteeModel", name := "fixed", desc := "(I)I" } : Jvm.MethodName) prog_14_method_78_code (2 : Nat) (Option.some Jvm.ClassFile.FieldType.int)) ∈ BIG := big_mem 2209 (by decide +kernel) rfl
theorem w_7380bc88 : (Jvm.Cond.code ({ cls := "VerseCommittee$Rendering", name := "standsWithout", desc := "(II)Z" } : Jvm.MethodName) prog_9_method_20_code (3 : Nat) (Option.some Jvm.ClassFile.FieldType.boolean)) ∈ BIG := big_mem 1194 (by decide +kernel) rfl
theorem w_7386363c : (Jvm.Cond.methodLink "VerseCommitteeModel" (1 : Nat) ({ cls := "java/lang/Object", name := "<init>", desc := "()V" } : Jvm.MethodName)) ∈ BIG := big_mem 1623 (by decide +kernel) rfl
theorem w_7390092d : (Jvm.Cond.methodLink "VerseCommittee" (204 : Nat) ({ cls := "VerseCommittee$Reckoner", name := "sourceSize", desc := "()I" } : Jvm.MethodName)) ∈ BIG := big_mem 979 (by decide +kernel) rfl
theorem w_73ae7677 : (Jvm.Cond.code ({ cls := "VerseCommitteeModel", name := "goesBehind", desc := "()Z" } : Jvm.MethodName) prog_14_method_46_code (2 : Nat) (Option.some Jvm.ClassFile.FieldType.boolean)) ∈ BIG := big_mem 2094 (by decide +kernel) rfl
theorem w_73b07b4b : (Jvm.Cond.selects "VerseCommittee$Shelf" ({ cls := "VerseCommittee$Shelf", name := "fix", desc := "(ILVerseCommittee$Rendering;I)V" } : Jvm.MethodName) ({ cls := "VerseCommittee$Shelf", name := "fix", desc := "(ILVerseCommittee$Rendering;I)V" } : Jvm.MethodName)) ∈ BIG := big_mem 1155 (by decide +kernel) rfl
theorem w_741931f2 : (Jvm.Cond.instanceMethod ({ cls := "VerseCommittee", name := "syllables", desc := "(I)I" } : Jvm.MethodName)) ∈ BIG := big_mem 669 (by decide +kernel) rfl
theorem w_745e89e6 : (Jvm.Cond.fieldLink "VerseCommittee$Reckoner" (60 : Nat) "VerseCommittee$Reckoner" "force" "I") ∈ BIG := big_mem 362 (by decide +kernel) rfl
theorem w_74e3bb72 : (Jvm.Cond.methodLink "VerseCommittee$Reckoner" (124 : Nat) ({ cls := "VerseCommittee$Laws", name := "isOf", desc := "(II)Z" } : Jvm.MethodName)) ∈ BIG := big_mem 884 (by decide +kernel) rfl
theorem w_74f29e08 : (Jvm.Cond.selects "VerseCommittee$Choices" ({ cls := "VerseCommittee$Choices", name := "mayStand", desc := "(I)Z" } : Jvm.MethodName) ({ cls := "VerseCommittee$Choices", name := "mayStand", desc := "(I)Z" } : Jvm.MethodName)) ∈ BIG := big_mem 57 (by decide +kernel) rfl
theorem w_75129ac1 : (Jvm.Cond.instanceMethod ({ cls := "VerseCommittee$Choices", name := "isOption", desc := "(II)Z" } : Jvm.MethodName)) ∈ BIG := big_mem 1351 (by decide +kernel) rfl
theorem w_75676819 : (Jvm.Cond.methodLink "VerseCommitteeLaw" (106 : Nat) ({ cls := "VerseCommittee", name := "breaches", desc := "(I)I" } : Jvm.MethodName)) ∈ BIG := big_mem 1217 (by decide +kernel) rfl
theorem w_7578250e : (Jvm.Cond.methodLink "VerseCommittee" (311 : Nat) ({ cls := "VerseCommittee", name := "isSign", desc := "(I)Z" } : Jvm.MethodName)) ∈ BIG := big_mem 1338 (by decide +kernel) rfl
theorem w_75c0fe65 : (Jvm.Cond.fieldLink "VerseCommittee$Choices" (74 : Nat) "VerseCommittee$Choices" "bestChoice" "I") ∈ BIG := big_mem 465 (by decide +kernel) rfl
theorem w_75e9fb45 : (Jvm.Cond.methodLink "VerseCommittee$People" (3 : Nat) ({ cls := "java/lang/Object", name := "<init>", desc := "()V" } : Jvm.MethodName)) ∈ BIG := big_mem 222 (by decide +kernel) rfl
theorem w_76257ce5 : (Jvm.Cond.code ({ cls := "VerseCommittee$Reckoner", name := "reckonCondition", desc := "(ZI)Z" } : Jvm.MethodName) prog_8_method_13_code (6 : Nat) (Option.some Jvm.ClassFile.FieldType.boolean)) ∈ BIG := big_mem 924 (by decide +kernel) rfl
theorem w_762b0631 : (Jvm.Cond.fieldLink "VerseCommitteeModel" (129 : Nat) "VerseCommitteeModel" "rSlots" "[I") ∈ BIG := big_mem 1681 (by decide +kernel) rfl
theorem w_76486524 : (Jvm.Cond.code ({ cls := "VerseCommitteeModel", name := "lists", desc := "()V" } : Jvm.MethodName) prog_14_method_115_code (4 : Nat) (Option.none : Option Jvm.ClassFile.FieldType)) ∈ BIG := big_mem 2359 (by decide +kernel) rfl
theorem w_76521a3f : (Jvm.Cond.methodLink "VerseCommittee" (334 : Nat) ({ cls := "VerseCommittee$Shelf", name := "fixedAt", desc := "(I)LVerseCommittee$Rendering;" } : Jvm.MethodName)) ∈ BIG := big_mem 1446 (by decide +kernel) rfl
theorem w_765ad432 : (Jvm.Cond.methodLink "VerseCommitteeModel" (392 : Nat) ({ cls := "VerseCommitteeModel", name := "copyOf", desc := "(II)I" } : Jvm.MethodName)) ∈ BIG := big_mem 2123 (by decide +kernel) rfl
theorem w_7678f77a : (Jvm.Cond.fieldLink "VerseCommitteeModel" (138 : Nat) "VerseCommitteeModel" "rFixedDay" "[I") ∈ BIG := big_mem 1684 (by decide +kernel) rfl
theorem w_76c87f62 : (Jvm.Cond.instanceMethod ({ cls := "VerseCommitteeModel", name := "breaches", desc := "(I)I" } : Jvm.MethodName)) ∈ BIG := big_mem 2219 (by decide +kernel) rfl
theorem w_76e727e8 : (Jvm.Cond.methodLink "VerseCommittee$Rendering" (68 : Nat) ({ cls := "VerseCommittee$Rendering", name := "isEnough", desc := "(III)Z" } : Jvm.MethodName)) ∈ BIG := big_mem 1129 (by decide +kernel) rfl
theorem w_76f51035 : (Jvm.Cond.methodLink "VerseCommitteeLaw" (42 : Nat) ({ cls := "VerseCommittee", name := "syllables", desc := "(I)I" } : Jvm.MethodName)) ∈ BIG := big_mem 668 (by decide +kernel) rfl
theorem w_7727d028 : (Jvm.Cond.code ({ cls := "VerseCommitteeModel", name := "isRendering", desc := "(I)Z" } : Jvm.MethodName) prog_14_method_66_code (2 : Nat) (Option.some Jvm.ClassFile.FieldType.boolean)) ∈ BIG := big_mem 2173 (by decide +kernel) rfl
theorem w_7794a596 : (Jvm.Cond.code ({ cls := "VerseCommitteeModel", name := "tells", desc := "(II)V" } : Jvm.MethodName) prog_14_method_72_code (3 : Nat) (Option.none : Option Jvm.ClassFile.FieldType)) ∈ BIG := big_mem 2189 (by decide +kernel) rfl
theorem w_77a5fca6 : (Jvm.Cond.methodLink "VerseCommittee" (316 : Nat) ({ cls := "VerseCommittee$Choices", name := "part", desc := "(II)Z" } : Jvm.MethodName)) ∈ BIG := big_mem 1357 (by decide +kernel) rfl
theorem w_77a93df7 : (Jvm.Cond.methodLink "VerseCommittee" (225 : Nat) ({ cls := "VerseCommittee", name := "tapeHasSlots", desc := "(II)Z" } : Jvm.MethodName)) ∈ BIG := big_mem 1017 (by decide +kernel) rfl
theorem w_77b52133 : (Jvm.Cond.constant "VerseCommittee$Choices" (70 : Nat) (2147483647 : Int32)) ∈ BIG := big_mem 1428 (by decide +kernel) rfl
theorem w_7838a96d : (Jvm.Cond.instanceMethod ({ cls := "VerseCommittee$Choices", name := "choiceOfRow", desc := "()I" } : Jvm.MethodName)) ∈ BIG := big_mem 1435 (by decide +kernel) rfl
theorem w_78744dea : (Jvm.Cond.selects "VerseCommitteeModel" ({ cls := "VerseCommitteeModel", name := "isOwn", desc := "(II)Z" } : Jvm.MethodName) ({ cls := "VerseCommitteeModel", name := "isOwn", desc := "(II)Z" } : Jvm.MethodName)) ∈ BIG := big_mem 77 (by decide +kernel) rfl
theorem w_78ad546b : (Jvm.Cond.instanceMethod ({ cls := "VerseCommitteeModel", name := "look", desc := "(II)I" } : Jvm.MethodName)) ∈ BIG := big_mem 2388 (by decide +kernel) rfl
theorem w_78b99046 : (Jvm.Cond.code ({ cls := "VerseCommittee$Reckoner", name := "sourceSize", desc := "()I" } : Jvm.MethodName) prog_8_method_6_code (1 : Nat) (Option.some Jvm.ClassFile.FieldType.int)) ∈ BIG := big_mem 982 (by decide +kernel) rfl
theorem w_78d5b2b3 : (Jvm.Cond.selects "VerseCommittee$Parser" ({ cls := "VerseCommittee$Parser", name := "readTerm", desc := "(I)Z" } : Jvm.MethodName) ({ cls := "VerseCommittee$Parser", name := "readTerm", desc := "(I)Z" } : Jvm.MethodName)) ∈ BIG := big_mem 19 (by decide +kernel) rfl
theorem w_78dd430d : (Jvm.Cond.selects "VerseCommittee" ({ cls := "VerseCommittee", name := "holds", desc := "(IIII)I" } : Jvm.MethodName) ({ cls := "VerseCommittee", name := "holds", desc := "(IIII)I" } : Jvm.MethodName)) ∈ BIG := big_mem 832 (by decide +kernel) rfl
theorem w_7911f22f : (Jvm.Cond.methodLink "VerseCommittee$Shelf" (76 : Nat) ({ cls := "VerseCommittee$Rendering", name := "goBack", desc := "(I)V" } : Jvm.MethodName)) ∈ BIG := big_mem 1196 (by decide +kernel) rfl
theorem w_793c558f : (Jvm.Cond.methodLink "VerseCommittee$Findings" (143 : Nat) ({ cls := "VerseCommittee$Findings", name := "markAlike", desc := "(II)Z" } : Jvm.MethodName)) ∈ BIG := big_mem 1302 (by decide +kernel) rfl
theorem w_796b769a : (Jvm.Cond.code ({ cls := "VerseCommittee$Laws", name := "speaksOf", desc := "(II)Z" } : Jvm.MethodName) prog_4_method_20_code (3 : Nat) (Option.some Jvm.ClassFile.FieldType.boolean)) ∈ BIG := big_mem 1247 (by decide +kernel) rfl
theorem w_79916c1d : (Jvm.Cond.initialized "VerseCommittee$Choices") ∈ BIG := big_mem 158 (by decide +kernel) rfl
theorem w_79a48d84 : (Jvm.Cond.selects "VerseCommitteeModel" ({ cls := "VerseCommitteeModel", name := "differ", desc := "(III)I" } : Jvm.MethodName) ({ cls := "VerseCommitteeModel", name := "differ", desc := "(III)I" } : Jvm.MethodName)) ∈ BIG := big_mem 2152 (by decide +kernel) rfl
theorem w_79a96171 : (Jvm.Cond.methodLink "VerseCommittee$Reckoner" (86 : Nat) ({ cls := "VerseCommittee$Laws", name := "value", desc := "(I)I" } : Jvm.MethodName)) ∈ BIG := big_mem 895 (by decide +kernel) rfl
theorem w_79f8976a : (Jvm.Cond.static ({ cls := "java/lang/Integer", name := "bitCount", desc := "(I)I" } : Jvm.MethodName)) ∈ BIG := big_mem 1124 (by decide +kernel) rfl
theorem w_7a1d6889 : (Jvm.Cond.instanceMethod ({ cls := "VerseCommitteeModel", name := "leftOf", desc := "(I)I" } : Jvm.MethodName)) ∈ BIG := big_mem 2393 (by decide +kernel) rfl
theorem w_7a8e0231 : (Jvm.Cond.selects "VerseCommitteeModel" ({ cls := "VerseCommitteeModel", name := "scholar", desc := "(IZ)I" } : Jvm.MethodName) ({ cls := "VerseCommitteeModel", name := "scholar", desc := "(IZ)I" } : Jvm.MethodName)) ∈ BIG := big_mem 1989 (by decide +kernel) rfl
theorem w_7ab6e7ff : (Jvm.Cond.instanceMethod ({ cls := "VerseCommittee", name := "check", desc := "(I)I" } : Jvm.MethodName)) ∈ BIG := big_mem 1564 (by decide +kernel) rfl
theorem w_7af0f4c9 : (Jvm.Cond.fieldLink "VerseCommitteeModel" (259 : Nat) "VerseCommitteeModel" "centreRate" "I") ∈ BIG := big_mem 1633 (by decide +kernel) rfl
theorem w_7afe1be6 : (Jvm.Cond.code ({ cls := "VerseCommittee", name := "line", desc := "(I)I" } : Jvm.MethodName) prog_1_method_31_code (5 : Nat) (Option.some Jvm.ClassFile.FieldType.int)) ∈ BIG := big_mem 1444 (by decide +kernel) rfl
theorem w_7b03d626 : (Jvm.Cond.code ({ cls := "VerseCommitteeModel", name := "differ", desc := "(III)I" } : Jvm.MethodName) prog_14_method_65_code (7 : Nat) (Option.some Jvm.ClassFile.FieldType.int)) ∈ BIG := big_mem 2153 (by decide +kernel) rfl
theorem w_7b26d0fd : (Jvm.Cond.methodLink "VerseCommitteeLaw" (58 : Nat) ({ cls := "VerseCommitteeModel", name := "scholar", desc := "(IZ)I" } : Jvm.MethodName)) ∈ BIG := big_mem 1987 (by decide +kernel) rfl
theorem w_7b588e5c : (Jvm.Cond.selects "VerseCommittee$Laws" ({ cls := "VerseCommittee$Laws", name := "hasClause", desc := "(II)Z" } : Jvm.MethodName) ({ cls := "VerseCommittee$Laws", name := "hasClause", desc := "(II)Z" } : Jvm.MethodName)) ∈ BIG := big_mem 836 (by decide +kernel) rfl
theorem w_7b6c2564 : (Jvm.Cond.instanceMethod ({ cls := "VerseCommittee$Reckoner", name := "reckonPart", desc := "(ZI)Z" } : Jvm.MethodName)) ∈ BIG := big_mem 927 (by decide +kernel) rfl
theorem w_7b976c0a : (Jvm.Cond.instanceMethod ({ cls := "VerseCommitteeModel", name := "fixedOn", desc := "(II)I" } : Jvm.MethodName)) ∈ BIG := big_mem 2211 (by decide +kernel) rfl
theorem w_7c1e42b2 : (Jvm.Cond.fieldLink "VerseCommitteeModel" (165 : Nat) "VerseCommitteeModel" "tRendering" "[I") ∈ BIG := big_mem 1694 (by decide +kernel) rfl
theorem w_7c1ee466 : (Jvm.Cond.methodLink "VerseCommitteeLaw" (13 : Nat) ({ cls := "VerseCommittee", name := "now", desc := "(I)Z" } : Jvm.MethodName)) ∈ BIG := big_mem 576 (by decide +kernel) rfl
theorem w_7c1faddf : (Jvm.Cond.instanceMethod ({ cls := "VerseCommitteeModel", name := "unlike", desc := "(II)I" } : Jvm.MethodName)) ∈ BIG := big_mem 2251 (by decide +kernel) rfl
theorem w_7c490bdf : (Jvm.Cond.methodLink "VerseCommittee" (302 : Nat) ({ cls := "VerseCommittee$Findings", name := "told", desc := "(I)I" } : Jvm.MethodName)) ∈ BIG := big_mem 1271 (by decide +kernel) rfl
theorem w_7c4e6646 : (Jvm.Cond.methodLink "VerseCommittee$Choices" (66 : Nat) ({ cls := "VerseCommittee$Choices", name := "mayStand", desc := "(I)Z" } : Jvm.MethodName)) ∈ BIG := big_mem 1412 (by decide +kernel) rfl
theorem w_7c502382 : (Jvm.Cond.static ({ cls := "VerseCommittee$Rendering", name := "isEnough", desc := "(III)Z" } : Jvm.MethodName)) ∈ BIG := big_mem 1130 (by decide +kernel) rfl
theorem w_7c54bc4f : (Jvm.Cond.selects "VerseCommittee$Verses" ({ cls := "VerseCommittee$Verses", name := "putRow", desc := "(II[II)V" } : Jvm.MethodName) ({ cls := "VerseCommittee$Verses", name := "putRow", desc := "(II[II)V" } : Jvm.MethodName)) ∈ BIG := big_mem 620 (by decide +kernel) rfl
theorem w_7c7616de : (Jvm.Cond.instanceMethod ({ cls := "VerseCommittee$Reckoner", name := "lastInForce", desc := "(II)I" } : Jvm.MethodName)) ∈ BIG := big_mem 876 (by decide +kernel) rfl
theorem w_7c7f70aa : (Jvm.Cond.methodLink "VerseCommittee" (119 : Nat) ({ cls := "VerseCommittee", name := "tapeHas", desc := "(II)Z" } : Jvm.MethodName)) ∈ BIG := big_mem 610 (by decide +kernel) rfl
theorem w_7c9a983f : (Jvm.Cond.methodLink "VerseCommittee$Rendering" (92 : Nat) ({ cls := "VerseCommittee$Rendering", name := "turnAt", desc := "(I)I" } : Jvm.MethodName)) ∈ BIG := big_mem 1587 (by decide +kernel) rfl
theorem w_7ca1a192 : (Jvm.Cond.instanceMethod ({ cls := "VerseCommittee", name := "breach", desc := "(III)I" } : Jvm.MethodName)) ∈ BIG := big_mem 1268 (by decide +kernel) rfl
theorem w_7cd82864 : (Jvm.Cond.fieldLink "VerseCommittee$Laws" (23 : Nat) "VerseCommittee$Laws" "lastDays" "[I") ∈ BIG := big_mem 258 (by decide +kernel) rfl
theorem w_7cd927c3 : (Jvm.Cond.selects "VerseCommittee" ({ cls := "VerseCommittee", name := "tapeHasTokens", desc := "(I)Z" } : Jvm.MethodName) ({ cls := "VerseCommittee", name := "tapeHasTokens", desc := "(I)Z" } : Jvm.MethodName)) ∈ BIG := big_mem 2 (by decide +kernel) rfl
theorem w_7ce0c5d9 : (Jvm.Cond.code ({ cls := "VerseCommittee", name := "apart", desc := "(II)Z" } : Jvm.MethodName) prog_1_method_28_code (3 : Nat) (Option.some Jvm.ClassFile.FieldType.boolean)) ∈ BIG := big_mem 1356 (by decide +kernel) rfl
theorem w_7cf70189 : (Jvm.Cond.methodLink "VerseCommitteeModel" (227 : Nat) ({ cls := "VerseCommitteeModel", name := "push", desc := "(I)V" } : Jvm.MethodName)) ∈ BIG := big_mem 1924 (by decide +kernel) rfl
theorem w_7cf9ef57 : (Jvm.Cond.methodLink "VerseCommittee$Choices" (77 : Nat) ({ cls := "VerseCommittee$Choices", name := "choose", desc := "(II)V" } : Jvm.MethodName)) ∈ BIG := big_mem 1429 (by decide +kernel) rfl
theorem w_7d34f5ba : (Jvm.Cond.instanceMethod ({ cls := "VerseCommittee$Choices", name := "choose", desc := "(II)V" } : Jvm.MethodName)) ∈ BIG := big_mem 1431 (by decide +kernel) rfl
theorem w_7d3cd84f : (Jvm.Cond.code ({ cls := "VerseCommittee$Rendering", name := "verseNumber", desc := "()I" } : Jvm.MethodName) prog_9_method_3_code (1 : Nat) (Option.some Jvm.ClassFile.FieldType.int)) ∈ BIG := big_mem 1099 (by decide +kernel) rfl
theorem w_7d7c6646 : (Jvm.Cond.code ({ cls := "VerseCommittee$Shelf", name := "at", desc := "(I)LVerseCommittee$Rendering;" } : Jvm.MethodName) prog_10_method_5_code (2 : Nat) (Option.some (Jvm.ClassFile.FieldType.object "VerseCommittee$Rendering"))) ∈ BIG := big_mem 1087 (by decide +kernel) rfl
theorem w_7d82910d : (Jvm.Cond.code ({ cls := "VerseCommittee$Rendering", name := "stateNumber", desc := "()I" } : Jvm.MethodName) prog_9_method_4_code (1 : Nat) (Option.some Jvm.ClassFile.FieldType.int)) ∈ BIG := big_mem 1174 (by decide +kernel) rfl
theorem w_7da9afc7 : (Jvm.Cond.fieldLink "VerseCommitteeModel" (120 : Nat) "VerseCommitteeModel" "rCopy" "[I") ∈ BIG := big_mem 1678 (by decide +kernel) rfl
theorem w_7dfdc7ff : (Jvm.Cond.code ({ cls := "VerseCommittee$Findings", name := "isUnlike", desc := "(II)Z" } : Jvm.MethodName) prog_3_method_10_code (7 : Nat) (Option.some Jvm.ClassFile.FieldType.boolean)) ∈ BIG := big_mem 1313 (by decide +kernel) rfl
theorem w_7e046976 : (Jvm.Cond.methodLink "VerseCommittee$Parser" (47 : Nat) ({ cls := "VerseCommittee$Parser", name := "sign", desc := "()I" } : Jvm.MethodName)) ∈ BIG := big_mem 730 (by decide +kernel) rfl
theorem w_7e0ebd15 : (Jvm.Cond.methodLink "VerseCommittee" (133 : Nat) ({ cls := "VerseCommittee$Words", name := "enter", desc := "([II)I" } : Jvm.MethodName)) ∈ BIG := big_mem 632 (by decide +kernel) rfl
theorem w_7e17cc8f : (Jvm.Cond.selects "VerseCommitteeModel" ({ cls := "VerseCommitteeModel", name := "isWord", desc := "(I)Z" } : Jvm.MethodName) ({ cls := "VerseCommitteeModel", name := "isWord", desc := "(I)Z" } : Jvm.MethodName)) ∈ BIG := big_mem 79 (by decide +kernel) rfl
theorem w_7f0bfc95 : (Jvm.Cond.fieldLink "VerseCommittee$Findings" (26 : Nat) "VerseCommittee$Findings" "placeSigns" "[I") ∈ BIG := big_mem 413 (by decide +kernel) rfl
theorem w_7f59d1e1 : (Jvm.Cond.instanceMethod ({ cls := "VerseCommittee", name := "verse", desc := "(II)I" } : Jvm.MethodName)) ∈ BIG := big_mem 592 (by decide +kernel) rfl
theorem w_7fa6e778 : (Jvm.Cond.fieldLink "VerseCommitteeModel" (111 : Nat) "VerseCommitteeModel" "rVerse" "[I") ∈ BIG := big_mem 1675 (by decide +kernel) rfl
theorem w_7fb9e405 : (Jvm.Cond.instanceMethod ({ cls := "VerseCommitteeModel", name := "syllables", desc := "(I)I" } : Jvm.MethodName)) ∈ BIG := big_mem 1969 (by decide +kernel) rfl
theorem w_7fd65c04 : (Jvm.Cond.fieldLink "VerseCommitteeModel" (177 : Nat) "VerseCommitteeModel" "options" "[I") ∈ BIG := big_mem 1706 (by decide +kernel) rfl
theorem w_7fdc03e1 : (Jvm.Cond.code ({ cls := "VerseCommittee$Rendering", name := "wouldGoOn", desc := "(II)Z" } : Jvm.MethodName) prog_9_method_14_code (4 : Nat) (Option.some Jvm.ClassFile.FieldType.boolean)) ∈ BIG := big_mem 1122 (by decide +kernel) rfl
theorem w_7fe892be : (Jvm.Cond.instanceMethod ({ cls := "VerseCommittee$Parser", name := "read", desc := "([II)I" } : Jvm.MethodName)) ∈ BIG := big_mem 723 (by decide +kernel) rfl
theorem w_8015c217 : (Jvm.Cond.methodLink "VerseCommitteeModel" (319 : Nat) ({ cls := "VerseCommitteeModel", name := "opens", desc := "()V" } : Jvm.MethodName)) ∈ BIG := big_mem 2043 (by decide +kernel) rfl
theorem w_801f3e4f : (Jvm.Cond.code ({ cls := "VerseCommitteeModel", name := "lies", desc := "(III)Z" } : Jvm.MethodName) prog_14_method_2_code (3 : Nat) (Option.some Jvm.ClassFile.FieldType.boolean)) ∈ BIG := big_mem 1919 (by decide +kernel) rfl
theorem w_803e32ce : (Jvm.Cond.selects "VerseCommitteeModel" ({ cls := "VerseCommitteeModel", name := "daysBy", desc := "(I)I" } : Jvm.MethodName) ({ cls := "VerseCommitteeModel", name := "daysBy", desc := "(I)I" } : Jvm.MethodName)) ∈ BIG := big_mem 145 (by decide +kernel) rfl
theorem w_8055900f : (Jvm.Cond.methodLink "VerseCommittee$Reckoner" (52 : Nat) ({ cls := "VerseCommittee$People", name := "companyOf", desc := "(I)I" } : Jvm.MethodName)) ∈ BIG := big_mem 854 (by decide +kernel) rfl
theorem w_8063de2c : (Jvm.Cond.methodLink "VerseCommittee" (140 : Nat) ({ cls := "VerseCommittee$Words", name := "respell", desc := "(II[II)V" } : Jvm.MethodName)) ∈ BIG := big_mem 662 (by decide +kernel) rfl
theorem w_807cc2e6 : (Jvm.Cond.code ({ cls := "VerseCommittee$Parser", name := "readTerm", desc := "(I)Z" } : Jvm.MethodName) prog_5_method_21_code (4 : Nat) (Option.some Jvm.ClassFile.FieldType.boolean)) ∈ BIG := big_mem 792 (by decide +kernel) rfl
theorem w_80a3a4ef : (Jvm.Cond.methodLink "VerseCommitteeLaw" (176 : Nat) ({ cls := "VerseCommitteeModel", name := "look", desc := "(II)I" } : Jvm.MethodName)) ∈ BIG := big_mem 2387 (by decide +kernel) rfl
theorem w_8122d3b2 : (Jvm.Cond.methodLink "VerseCommittee$Reckoner" (144 : Nat) ({ cls := "VerseCommittee$Reckoner", name := "reckonTerm", desc := "(ZI)I" } : Jvm.MethodName)) ∈ BIG := big_mem 941 (by decide +kernel) rfl
theorem w_814099d6 : (Jvm.Cond.selects "VerseCommittee$Planner" ({ cls := "VerseCommittee$Planner", name := "gatherBooks", desc := "()V" } : Jvm.MethodName) ({ cls := "VerseCommittee$Planner", name := "gatherBooks", desc := "()V" } : Jvm.MethodName)) ∈ BIG := big_mem 66 (by decide +kernel) rfl
theorem w_81464837 : (Jvm.Cond.instanceMethod ({ cls := "VerseCommittee$Parser", name := "pass", desc := "(I)Z" } : Jvm.MethodName)) ∈ BIG := big_mem 763 (by decide +kernel) rfl
theorem w_817678f1 : (Jvm.Cond.methodLink "VerseCommitteeModel" (551 : Nat) ({ cls := "VerseCommitteeModel", name := "up", desc := "(II)I" } : Jvm.MethodName)) ∈ BIG := big_mem 2372 (by decide +kernel) rfl
theorem w_81785c57 : (Jvm.Cond.instanceMethod ({ cls := "VerseCommittee$Choices", name := "barByClauses", desc := "(I[II)V" } : Jvm.MethodName)) ∈ BIG := big_mem 1392 (by decide +kernel) rfl
theorem w_817dcde5 : (Jvm.Cond.fieldLink "VerseCommittee" (47 : Nat) "VerseCommittee" "shelf" "LVerseCommittee$Shelf;") ∈ BIG := big_mem 539 (by decide +kernel) rfl
theorem w_8180f0dd : (Jvm.Cond.instanceMethod ({ cls := "VerseCommitteeModel", name := "quarrel", desc := "(III)I" } : Jvm.MethodName)) ∈ BIG := big_mem 2239 (by decide +kernel) rfl
theorem w_81900b21 : (Jvm.Cond.instanceMethod ({ cls := "VerseCommitteeModel", name := "factor", desc := "()V" } : Jvm.MethodName)) ∈ BIG := big_mem 2057 (by decide +kernel) rfl
theorem w_82067e52 : (Jvm.Cond.methodLink "VerseCommittee$Parser" (78 : Nat) ({ cls := "VerseCommittee$Parser", name := "readNumber", desc := "(I)I" } : Jvm.MethodName)) ∈ BIG := big_mem 754 (by decide +kernel) rfl
theorem w_820ab394 : (Jvm.Cond.selects "VerseCommitteeModel" ({ cls := "VerseCommitteeModel", name := "goesBehind", desc := "()Z" } : Jvm.MethodName) ({ cls := "VerseCommitteeModel", name := "goesBehind", desc := "()Z" } : Jvm.MethodName)) ∈ BIG := big_mem 101 (by decide +kernel) rfl
theorem w_8221b243 : (Jvm.Cond.instanceMethod ({ cls := "VerseCommitteeModel", name := "top", desc := "()I" } : Jvm.MethodName)) ∈ BIG := big_mem 2082 (by decide +kernel) rfl
theorem w_8249f05f : (Jvm.Cond.methodLink "VerseCommitteeLaw" (45 : Nat) ({ cls := "VerseCommitteeModel", name := "syllables", desc := "(I)I" } : Jvm.MethodName)) ∈ BIG := big_mem 1968 (by decide +kernel) rfl
theorem w_82573774 : (Jvm.Cond.instanceMethod ({ cls := "VerseCommittee$Findings", name := "told", desc := "(I)I" } : Jvm.MethodName)) ∈ BIG := big_mem 1272 (by decide +kernel) rfl
theorem w_829daf4f : (Jvm.Cond.instanceMethod ({ cls := "VerseCommittee$Laws", name := "subject", desc := "(I)I" } : Jvm.MethodName)) ∈ BIG := big_mem 892 (by decide +kernel) rfl
theorem w_82aad13a : (Jvm.Cond.methodLink "VerseCommittee$Parser" (101 : Nat) ({ cls := "VerseCommittee$Parser", name := "readSum", desc := "(I)Z" } : Jvm.MethodName)) ∈ BIG := big_mem 785 (by decide +kernel) rfl
theorem w_82ac92be : (Jvm.Cond.methodLink "VerseCommitteeModel" (569 : Nat) ({ cls := "VerseCommitteeModel", name := "leftOf", desc := "(I)I" } : Jvm.MethodName)) ∈ BIG := big_mem 2391 (by decide +kernel) rfl
theorem w_82c8bb83 : (Jvm.Cond.methodLink "VerseCommittee" (105 : Nat) ({ cls := "VerseCommittee", name := "putFour", desc := "(I)V" } : Jvm.MethodName)) ∈ BIG := big_mem 587 (by decide +kernel) rfl
theorem w_82d1eb58 : (Jvm.Cond.code ({ cls := "VerseCommittee$Laws", name := "isOf", desc := "(II)Z" } : Jvm.MethodName) prog_4_method_16_code (3 : Nat) (Option.some Jvm.ClassFile.FieldType.boolean)) ∈ BIG := big_mem 887 (by decide +kernel) rfl
theorem w_830b98fb : (Jvm.Cond.code ({ cls := "VerseCommittee$Choices", name := "arePart", desc := "(II)Z" } : Jvm.MethodName) prog_2_method_9_code (3 : Nat) (Option.some Jvm.ClassFile.FieldType.boolean)) ∈ BIG := big_mem 1364 (by decide +kernel) rfl
theorem w_832ba52a : (Jvm.Cond.code ({ cls := "VerseCommittee", name := "check", desc := "(I)I" } : Jvm.MethodName) prog_1_method_38_code (2 : Nat) (Option.some Jvm.ClassFile.FieldType.int)) ∈ BIG := big_mem 1566 (by decide +kernel) rfl
theorem w_836a4a91 : (Jvm.Cond.methodLink "VerseCommitteeLaw" (22 : Nat) ({ cls := "VerseCommitteeModel", name := "feed", desc := "(IIIII)I" } : Jvm.MethodName)) ∈ BIG := big_mem 1920 (by decide +kernel) rfl
theorem w_83aff011 : (Jvm.Cond.code ({ cls := "VerseCommitteeModel", name := "fails", desc := "(II)V" } : Jvm.MethodName) prog_14_method_27_code (3 : Nat) (Option.none : Option Jvm.ClassFile.FieldType)) ∈ BIG := big_mem 2014 (by decide +kernel) rfl
theorem w_83b7c590 : (Jvm.Cond.code ({ cls := "VerseCommittee$Parser", name := "isTermSign", desc := "()Z" } : Jvm.MethodName) prog_5_method_22_code (1 : Nat) (Option.some Jvm.ClassFile.FieldType.boolean)) ∈ BIG := big_mem 801 (by decide +kernel) rfl
theorem w_83c35d12 : (Jvm.Cond.code ({ cls := "VerseCommittee$Findings", name := "<init>", desc := "(LVerseCommittee$Laws;LVerseCommittee$Verses;LVerseCommittee$Reckoner;LVerseCommittee$Shelf;)V" } : Jvm.MethodName) prog_3_method_1_code (5 : Nat) (Option.none : Option Jvm.ClassFile.FieldType)) ∈ BIG := big_mem 403 (by decide +kernel) rfl
theorem w_840705bf : (Jvm.Cond.selects "VerseCommitteeModel" ({ cls := "VerseCommitteeModel", name := "spell", desc := "(III)Z" } : Jvm.MethodName) ({ cls := "VerseCommitteeModel", name := "spell", desc := "(III)Z" } : Jvm.MethodName)) ∈ BIG := big_mem 1962 (by decide +kernel) rfl
theorem w_84114566 : (Jvm.Cond.selects "VerseCommitteeModel" ({ cls := "VerseCommitteeModel", name := "push", desc := "(I)V" } : Jvm.MethodName) ({ cls := "VerseCommitteeModel", name := "push", desc := "(I)V" } : Jvm.MethodName)) ∈ BIG := big_mem 74 (by decide +kernel) rfl
theorem w_843f1b99 : (Jvm.Cond.methodLink "VerseCommitteeLaw" (117 : Nat) ({ cls := "VerseCommitteeModel", name := "quarrel", desc := "(III)I" } : Jvm.MethodName)) ∈ BIG := big_mem 2238 (by decide +kernel) rfl
theorem w_845d3a25 : (Jvm.Cond.fieldLink "VerseCommitteeModel" (114 : Nat) "VerseCommitteeModel" "rState" "[I") ∈ BIG := big_mem 1676 (by decide +kernel) rfl
theorem w_84b1be78 : (Jvm.Cond.static ({ cls := "VerseCommittee", name := "isCopy", desc := "(I)Z" } : Jvm.MethodName)) ∈ BIG := big_mem 608 (by decide +kernel) rfl
theorem w_84dda62c : (Jvm.Cond.selects "VerseCommittee$Parser" ({ cls := "VerseCommittee$Parser", name := "readHundredths", desc := "(I)Z" } : Jvm.MethodName) ({ cls := "VerseCommittee$Parser", name := "readHundredths", desc := "(I)Z" } : Jvm.MethodName)) ∈ BIG := big_mem 24 (by decide +kernel) rfl
theorem w_850c6052 : (Jvm.Cond.selects "VerseCommitteeModel" ({ cls := "VerseCommitteeModel", name := "unlikes", desc := "(I)I" } : Jvm.MethodName) ({ cls := "VerseCommitteeModel", name := "unlikes", desc := "(I)I" } : Jvm.MethodName)) ∈ BIG := big_mem 128 (by decide +kernel) rfl
theorem w_853afffb : (Jvm.Cond.selects "VerseCommittee" ({ cls := "VerseCommittee", name := "word", desc := "(I)I" } : Jvm.MethodName) ({ cls := "VerseCommittee", name := "word", desc := "(I)I" } : Jvm.MethodName)) ∈ BIG := big_mem 626 (by decide +kernel) rfl
theorem w_85953e96 : (Jvm.Cond.selects "VerseCommitteeModel" ({ cls := "VerseCommitteeModel", name := "breach", desc := "(III)I" } : Jvm.MethodName) ({ cls := "VerseCommitteeModel", name := "breach", desc := "(III)I" } : Jvm.MethodName)) ∈ BIG := big_mem 2236 (by decide +kernel) rfl
theorem w_8599157e : (Jvm.Cond.methodLink "VerseCommittee$Rendering" (89 : Nat) ({ cls := "VerseCommittee$Rendering", name := "tellSlot", desc := "(I)I" } : Jvm.MethodName)) ∈ BIG := big_mem 1583 (by decide +kernel) rfl
theorem w_85b2fdb2 : (Jvm.Cond.fieldLink "VerseCommitteeModel" (63 : Nat) "VerseCommitteeModel" "clauses" "[I") ∈ BIG := big_mem 1650 (by decide +kernel) rfl
theorem w_85c28d62 : (Jvm.Cond.selects "VerseCommittee" ({ cls := "VerseCommittee", name := "centre", desc := "(I)Z" } : Jvm.MethodName) ({ cls := "VerseCommittee", name := "centre", desc := "(I)Z" } : Jvm.MethodName)) ∈ BIG := big_mem 695 (by decide +kernel) rfl
theorem w_86008f91 : (Jvm.Cond.selects "VerseCommittee" ({ cls := "VerseCommittee", name := "votersOf", desc := "(LVerseCommittee$Rendering;)I" } : Jvm.MethodName) ({ cls := "VerseCommittee", name := "votersOf", desc := "(LVerseCommittee$Rendering;)I" } : Jvm.MethodName)) ∈ BIG := big_mem 39 (by decide +kernel) rfl
theorem w_861f2821 : (Jvm.Cond.code ({ cls := "VerseCommittee$Laws", name := "start", desc := "(I)I" } : Jvm.MethodName) prog_4_method_19_code (2 : Nat) (Option.some Jvm.ClassFile.FieldType.int)) ∈ BIG := big_mem 912 (by decide +kernel) rfl
theorem w_86502b89 : (Jvm.Cond.instanceMethod ({ cls := "VerseCommittee$Choices", name := "chooseOption", desc := "(III)V" } : Jvm.MethodName)) ∈ BIG := big_mem 1439 (by decide +kernel) rfl
theorem w_8684630a : (Jvm.Cond.instanceMethod ({ cls := "VerseCommitteeModel", name := "valueOf", desc := "(III)I" } : Jvm.MethodName)) ∈ BIG := big_mem 2148 (by decide +kernel) rfl
theorem w_8691b8cb : (Jvm.Cond.methodLink "VerseCommittee$Rendering" (58 : Nat) ({ cls := "VerseCommittee$Rendering", name := "stage", desc := "()I" } : Jvm.MethodName)) ∈ BIG := big_mem 1114 (by decide +kernel) rfl
theorem w_86e183d2 : (Jvm.Cond.methodLink "VerseCommittee$Choices" (88 : Nat) ({ cls := "VerseCommittee$Choices", name := "chooseOption", desc := "(III)V" } : Jvm.MethodName)) ∈ BIG := big_mem 1437 (by decide +kernel) rfl
theorem w_87073835 : (Jvm.Cond.selects "VerseCommittee$Choices" ({ cls := "VerseCommittee$Choices", name := "barOthers", desc := "(II)V" } : Jvm.MethodName) ({ cls := "VerseCommittee$Choices", name := "barOthers", desc := "(II)V" } : Jvm.MethodName)) ∈ BIG := big_mem 56 (by decide +kernel) rfl
theorem w_8720f3e8 : (Jvm.Cond.instanceMethod ({ cls := "VerseCommitteeModel", name := "one", desc := "()I" } : Jvm.MethodName)) ∈ BIG := big_mem 2314 (by decide +kernel) rfl
theorem w_8726c53c : (Jvm.Cond.methodLink "VerseCommitteeLaw" (23 : Nat) ({ cls := "VerseCommittee", name := "verse", desc := "(II)I" } : Jvm.MethodName)) ∈ BIG := big_mem 591 (by decide +kernel) rfl
theorem w_875b6e98 : (Jvm.Cond.methodLink "VerseCommitteeModel" (457 : Nat) ({ cls := "VerseCommitteeModel", name := "turnsBy", desc := "(III)Z" } : Jvm.MethodName)) ∈ BIG := big_mem 2230 (by decide +kernel) rfl
theorem w_875ecd63 : (Jvm.Cond.code ({ cls := "VerseCommittee$Laws", name := "subject", desc := "(I)I" } : Jvm.MethodName) prog_4_method_17_code (2 : Nat) (Option.some Jvm.ClassFile.FieldType.int)) ∈ BIG := big_mem 894 (by decide +kernel) rfl
theorem w_87685029 : (Jvm.Cond.methodLink "VerseCommitteeModel" (376 : Nat) ({ cls := "VerseCommitteeModel", name := "isDay", desc := "(I)Z" } : Jvm.MethodName)) ∈ BIG := big_mem 1995 (by decide +kernel) rfl
theorem w_87d6aece : (Jvm.Cond.methodLink "VerseCommitteeModel" (445 : Nat) ({ cls := "VerseCommitteeModel", name := "unfixes", desc := "(I)V" } : Jvm.MethodName)) ∈ BIG := big_mem 2202 (by decide +kernel) rfl
theorem w_87d6eadd : (Jvm.Cond.instanceMethod ({ cls := "VerseCommittee", name := "fixedOn", desc := "(II)I" } : Jvm.MethodName)) ∈ BIG := big_mem 1206 (by decide +kernel) rfl
theorem w_87dc6301 : (Jvm.Cond.methodLink "VerseCommittee$Reckoner" (134 : Nat) ({ cls := "VerseCommittee$Reckoner", name := "sign", desc := "()I" } : Jvm.MethodName)) ∈ BIG := big_mem 933 (by decide +kernel) rfl
theorem w_8876f919 : (Jvm.Cond.selects "VerseCommittee$Shelf" ({ cls := "VerseCommittee$Shelf", name := "enter", desc := "(LVerseCommittee$Rendering;)I" } : Jvm.MethodName) ({ cls := "VerseCommittee$Shelf", name := "enter", desc := "(LVerseCommittee$Rendering;)I" } : Jvm.MethodName)) ∈ BIG := big_mem 1077 (by decide +kernel) rfl
theorem w_88bd914c : (Jvm.Cond.selects "VerseCommittee$Parser" ({ cls := "VerseCommittee$Parser", name := "readComparison", desc := "()Z" } : Jvm.MethodName) ({ cls := "VerseCommittee$Parser", name := "readComparison", desc := "()Z" } : Jvm.MethodName)) ∈ BIG := big_mem 22 (by decide +kernel) rfl
theorem w_891d222c : (Jvm.Cond.fieldLink "VerseCommitteeModel" (123 : Nat) "VerseCommitteeModel" "rTokens" "[I") ∈ BIG := big_mem 1679 (by decide +kernel) rfl
theorem w_891d61ac : (Jvm.Cond.selects "VerseCommittee$Rendering" ({ cls := "VerseCommittee$Rendering", name := "leftBits", desc := "()I" } : Jvm.MethodName) ({ cls := "VerseCommittee$Rendering", name := "leftBits", desc := "()I" } : Jvm.MethodName)) ∈ BIG := big_mem 72 (by decide +kernel) rfl
theorem w_892ad099 : (Jvm.Cond.methodLink "VerseCommittee$Choices" (130 : Nat) ({ cls := "VerseCommittee$Laws", name := "size", desc := "()I" } : Jvm.MethodName)) ∈ BIG := big_mem 1395 (by decide +kernel) rfl
theorem w_89842ad9 : (Jvm.Cond.instanceMethod ({ cls := "VerseCommittee", name := "count", desc := "(I)I" } : Jvm.MethodName)) ∈ BIG := big_mem 1589 (by decide +kernel) rfl
theorem w_89fd4800 : (Jvm.Cond.code ({ cls := "VerseCommitteeModel", name := "verse", desc := "(II)I" } : Jvm.MethodName) prog_14_method_10_code (3 : Nat) (Option.some Jvm.ClassFile.FieldType.int)) ∈ BIG := big_mem 1931 (by decide +kernel) rfl
theorem w_8a0ab1a2 : (Jvm.Cond.methodLink "VerseCommittee$Parser" (55 : Nat) ({ cls := "VerseCommittee$Laws", name := "putClause", desc := "(III)V" } : Jvm.MethodName)) ∈ BIG := big_mem 738 (by decide +kernel) rfl
theorem w_8a1bf452 : (Jvm.Cond.methodLink "VerseCommittee" (136 : Nat) ({ cls := "VerseCommittee", name := "isEdition", desc := "(I)Z" } : Jvm.MethodName)) ∈ BIG := big_mem 655 (by decide +kernel) rfl
theorem w_8a5f6650 : (Jvm.Cond.fieldLink "VerseCommitteeModel" (60 : Nat) "VerseCommitteeModel" "ruleTo" "[I") ∈ BIG := big_mem 1649 (by decide +kernel) rfl
theorem w_8a8c528c : (Jvm.Cond.selects "VerseCommittee" ({ cls := "VerseCommittee", name := "breaksMeasure", desc := "(LVerseCommittee$Rendering;I)Z" } : Jvm.MethodName) ({ cls := "VerseCommittee", name := "breaksMeasure", desc := "(LVerseCommittee$Rendering;I)Z" } : Jvm.MethodName)) ∈ BIG := big_mem 62 (by decide +kernel) rfl
theorem w_8a8cf266 : (Jvm.Cond.instanceMethod ({ cls := "VerseCommittee$Reckoner", name := "findCopy", desc := "()V" } : Jvm.MethodName)) ∈ BIG := big_mem 872 (by decide +kernel) rfl
theorem w_8a9196d9 : (Jvm.Cond.instanceMethod ({ cls := "VerseCommitteeModel", name := "tells", desc := "(II)V" } : Jvm.MethodName)) ∈ BIG := big_mem 2188 (by decide +kernel) rfl
theorem w_8a9eeb09 : (Jvm.Cond.selects "VerseCommittee$People" ({ cls := "VerseCommittee$People", name := "enterCompany", desc := "(II)I" } : Jvm.MethodName) ({ cls := "VerseCommittee$People", name := "enterCompany", desc := "(II)I" } : Jvm.MethodName)) ∈ BIG := big_mem 691 (by decide +kernel) rfl
theorem w_8ae108d9 : (Jvm.Cond.fieldLink "VerseCommittee$Choices" (32 : Nat) "VerseCommittee$Choices" "row" "[I") ∈ BIG := big_mem 462 (by decide +kernel) rfl
theorem w_8ae5df6c : (Jvm.Cond.code ({ cls := "VerseCommittee$Words", name := "sizeIn", desc := "(II)I" } : Jvm.MethodName) prog_12_method_6_code (3 : Nat) (Option.some Jvm.ClassFile.FieldType.int)) ∈ BIG := big_mem 1492 (by decide +kernel) rfl
theorem w_8af64ec9 : (Jvm.Cond.fieldLink "VerseCommittee$Findings" (49 : Nat) "VerseCommittee$Findings" "seen" "I") ∈ BIG := big_mem 417 (by decide +kernel) rfl
theorem w_8b247892 : (Jvm.Cond.methodLink "VerseCommittee" (224 : Nat) ({ cls := "VerseCommittee$Shelf", name := "isFull", desc := "()Z" } : Jvm.MethodName)) ∈ BIG := big_mem 1013 (by decide +kernel) rfl
theorem w_8b28240c : (Jvm.Cond.code ({ cls := "VerseCommitteeModel", name := "syllablesOf", desc := "(I)I" } : Jvm.MethodName) prog_14_method_20_code (6 : Nat) (Option.some Jvm.ClassFile.FieldType.int)) ∈ BIG := big_mem 1975 (by decide +kernel) rfl
theorem w_8b4f203b : (Jvm.Cond.instanceMethod ({ cls := "VerseCommitteeModel", name := "wordOf", desc := "(III)I" } : Jvm.MethodName)) ∈ BIG := big_mem 2268 (by decide +kernel) rfl
theorem w_8b812591 : (Jvm.Cond.code ({ cls := "VerseCommitteeModel", name := "ends", desc := "()V" } : Jvm.MethodName) prog_14_method_42_code (1 : Nat) (Option.none : Option Jvm.ClassFile.FieldType)) ∈ BIG := big_mem 2090 (by decide +kernel) rfl
theorem w_8bb97565 : (Jvm.Cond.code ({ cls := "VerseCommitteeModel", name := "fixedOf", desc := "(I)I" } : Jvm.MethodName) prog_14_method_71_code (3 : Nat) (Option.some Jvm.ClassFile.FieldType.int)) ∈ BIG := big_mem 2185 (by decide +kernel) rfl
theorem w_8bddb3bb : (Jvm.Cond.code ({ cls := "VerseCommittee$Parser", name := "<init>", desc := "(LVerseCommittee$Laws;)V" } : Jvm.MethodName) prog_5_method_1_code (2 : Nat) (Option.none : Option Jvm.ClassFile.FieldType)) ∈ BIG := big_mem 323 (by decide +kernel) rfl
theorem w_8be3aca9 : (Jvm.Cond.selects "VerseCommitteeModel" ({ cls := "VerseCommitteeModel", name := "prices", desc := "()V" } : Jvm.MethodName) ({ cls := "VerseCommitteeModel", name := "prices", desc := "()V" } : Jvm.MethodName)) ∈ BIG := big_mem 135 (by decide +kernel) rfl
theorem w_8c4b0102 : (Jvm.Cond.code ({ cls := "VerseCommittee$Shelf", name := "fixedAt", desc := "(I)LVerseCommittee$Rendering;" } : Jvm.MethodName) prog_10_method_7_code (2 : Nat) (Option.some (Jvm.ClassFile.FieldType.object "VerseCommittee$Rendering"))) ∈ BIG := big_mem 1139 (by decide +kernel) rfl
theorem w_8c562137 : (Jvm.Cond.instanceMethod ({ cls := "VerseCommittee$Choices", name := "reckon", desc := "(I)V" } : Jvm.MethodName)) ∈ BIG := big_mem 1374 (by decide +kernel) rfl
theorem w_8c850575 : (Jvm.Cond.methodLink "VerseCommitteeModel" (238 : Nat) ({ cls := "VerseCommitteeModel", name := "isOwn", desc := "(II)Z" } : Jvm.MethodName)) ∈ BIG := big_mem 1952 (by decide +kernel) rfl
theorem w_8ca1e67d : (Jvm.Cond.fieldLink "VerseCommittee$Choices" (15 : Nat) "VerseCommittee$Choices" "sizes" "[I") ∈ BIG := big_mem 457 (by decide +kernel) rfl
theorem w_8cb0cad3 : (Jvm.Cond.methodLink "VerseCommitteeModel" (367 : Nat) ({ cls := "VerseCommitteeModel", name := "readsMust", desc := "(I)V" } : Jvm.MethodName)) ∈ BIG := big_mem 2015 (by decide +kernel) rfl
theorem w_8d08b777 : (Jvm.Cond.code ({ cls := "VerseCommittee", name := "option", desc := "(II)Z" } : Jvm.MethodName) prog_1_method_27_code (3 : Nat) (Option.some Jvm.ClassFile.FieldType.boolean)) ∈ BIG := big_mem 1337 (by decide +kernel) rfl
theorem w_8d3921ee : (Jvm.Cond.fieldLink "VerseCommitteeModel" (156 : Nat) "VerseCommitteeModel" "voted" "[I") ∈ BIG := big_mem 1690 (by decide +kernel) rfl
theorem w_8d3a098d : (Jvm.Cond.instanceMethod ({ cls := "VerseCommitteeModel", name := "vote", desc := "(IIZ)Z" } : Jvm.MethodName)) ∈ BIG := big_mem 2163 (by decide +kernel) rfl
theorem w_8d7cceba : (Jvm.Cond.methodLink "VerseCommittee$Reckoner" (147 : Nat) ({ cls := "VerseCommittee$Reckoner", name := "reckonFactor", desc := "(ZI)I" } : Jvm.MethodName)) ∈ BIG := big_mem 945 (by decide +kernel) rfl
theorem w_8dde54b2 : (Jvm.Cond.fieldLink "VerseCommittee$People" (21 : Nat) "VerseCommittee$People" "companies" "I") ∈ BIG := big_mem 228 (by decide +kernel) rfl
theorem w_8e9e1873 : (Jvm.Cond.selects "VerseCommitteeModel" ({ cls := "VerseCommitteeModel", name := "goesBack", desc := "(II)I" } : Jvm.MethodName) ({ cls := "VerseCommitteeModel", name := "goesBack", desc := "(II)I" } : Jvm.MethodName)) ∈ BIG := big_mem 119 (by decide +kernel) rfl
theorem w_8ead1449 : (Jvm.Cond.instanceMethod ({ cls := "VerseCommittee$Findings", name := "shareClause", desc := "(II)Z" } : Jvm.MethodName)) ∈ BIG := big_mem 1316 (by decide +kernel) rfl
theorem w_8eb383b1 : (Jvm.Cond.fieldLink "VerseCommittee$Findings" (20 : Nat) "VerseCommittee$Findings" "placeVerse" "[I") ∈ BIG := big_mem 411 (by decide +kernel) rfl
theorem w_8f0a8f02 : (Jvm.Cond.code ({ cls := "VerseCommittee$Rendering", name := "<init>", desc := "(III[II)V" } : Jvm.MethodName) prog_9_method_1_code (6 : Nat) (Option.none : Option Jvm.ClassFile.FieldType)) ∈ BIG := big_mem 1025 (by decide +kernel) rfl
theorem w_8f47e070 : (Jvm.Cond.code ({ cls := "VerseCommittee$People", name := "setCentreRate", desc := "(I)V" } : Jvm.MethodName) prog_6_method_8_code (2 : Nat) (Option.none : Option Jvm.ClassFile.FieldType)) ∈ BIG := big_mem 700 (by decide +kernel) rfl
theorem w_8fb5bbb8 : (Jvm.Cond.fieldLink "VerseCommittee$Words" (11 : Nat) "VerseCommittee$Words" "letters" "[B") ∈ BIG := big_mem 178 (by decide +kernel) rfl
theorem w_8fb82fed : (Jvm.Cond.selects "VerseCommittee$Laws" ({ cls := "VerseCommittee$Laws", name := "clausesOf", desc := "(I)I" } : Jvm.MethodName) ({ cls := "VerseCommittee$Laws", name := "clausesOf", desc := "(I)I" } : Jvm.MethodName)) ∈ BIG := big_mem 840 (by decide +kernel) rfl
theorem w_8fe3ce0c : (Jvm.Cond.code ({ cls := "VerseCommittee", name := "isPastDay", desc := "(I)Z" } : Jvm.MethodName) prog_1_method_43_code (2 : Nat) (Option.some Jvm.ClassFile.FieldType.boolean)) ∈ BIG := big_mem 1212 (by decide +kernel) rfl
theorem w_900c73ff : (Jvm.Cond.methodLink "VerseCommitteeModel" (400 : Nat) ({ cls := "VerseCommitteeModel", name := "daysOf", desc := "(II)I" } : Jvm.MethodName)) ∈ BIG := big_mem 2119 (by decide +kernel) rfl
theorem w_903b7eab : (Jvm.Cond.instanceMethod ({ cls := "VerseCommittee", name := "breaksMeasure", desc := "(LVerseCommittee$Rendering;I)Z" } : Jvm.MethodName)) ∈ BIG := big_mem 1450 (by decide +kernel) rfl
theorem w_9067a0a6 : (Jvm.Cond.code ({ cls := "VerseCommitteeModel", name := "goesOn", desc := "()Z" } : Jvm.MethodName) prog_14_method_44_code (2 : Nat) (Option.some Jvm.ClassFile.FieldType.boolean)) ∈ BIG := big_mem 2069 (by decide +kernel) rfl
theorem w_90a879ee : (Jvm.Cond.code ({ cls := "VerseCommittee$Rendering", name := "becomeFixed", desc := "(I)V" } : Jvm.MethodName) prog_9_method_17_code (2 : Nat) (Option.none : Option Jvm.ClassFile.FieldType)) ∈ BIG := big_mem 1165 (by decide +kernel) rfl
theorem w_90b1f295 : (Jvm.Cond.fieldLink "VerseCommittee$People" (15 : Nat) "VerseCommittee$People" "rates" "[I") ∈ BIG := big_mem 224 (by decide +kernel) rfl
theorem w_90cf2b06 : (Jvm.Cond.instanceMethod ({ cls := "VerseCommittee$Choices", name := "readRow", desc := "(I)Z" } : Jvm.MethodName)) ∈ BIG := big_mem 1370 (by decide +kernel) rfl
theorem w_91080f12 : (Jvm.Cond.methodLink "VerseCommittee$Planner" (77 : Nat) ({ cls := "VerseCommittee$Verses", name := "size", desc := "()I" } : Jvm.MethodName)) ∈ BIG := big_mem 1518 (by decide +kernel) rfl
theorem w_91196155 : (Jvm.Cond.instanceMethod ({ cls := "VerseCommittee$People", name := "hasBook", desc := "(II)Z" } : Jvm.MethodName)) ∈ BIG := big_mem 859 (by decide +kernel) rfl
theorem w_91448f9c : (Jvm.Cond.instanceMethod ({ cls := "VerseCommitteeModel", name := "render", desc := "(III)I" } : Jvm.MethodName)) ∈ BIG := big_mem 2159 (by decide +kernel) rfl
theorem w_91801e82 : (Jvm.Cond.static ({ cls := "VerseCommittee$Parser", name := "isBetween", desc := "(III)Z" } : Jvm.MethodName)) ∈ BIG := big_mem 759 (by decide +kernel) rfl
theorem w_91b44d7d : (Jvm.Cond.code ({ cls := "VerseCommitteeModel", name := "centre", desc := "(I)Z" } : Jvm.MethodName) prog_14_method_23_code (2 : Nat) (Option.some Jvm.ClassFile.FieldType.boolean)) ∈ BIG := big_mem 1986 (by decide +kernel) rfl
theorem w_91d218e9 : (Jvm.Cond.code ({ cls := "VerseCommitteeModel", name := "unfixes", desc := "(I)V" } : Jvm.MethodName) prog_14_method_75_code (2 : Nat) (Option.none : Option Jvm.ClassFile.FieldType)) ∈ BIG := big_mem 2205 (by decide +kernel) rfl
theorem w_91d32a40 : (Jvm.Cond.selects "VerseCommitteeModel" ({ cls := "VerseCommitteeModel", name := "feed", desc := "(IIIII)I" } : Jvm.MethodName) ({ cls := "VerseCommitteeModel", name := "feed", desc := "(IIIII)I" } : Jvm.MethodName)) ∈ BIG := big_mem 1922 (by decide +kernel) rfl
theorem w_91d7c41c : (Jvm.Cond.fieldLink "VerseCommitteeModel" (48 : Nat) "VerseCommitteeModel" "own" "[B") ∈ BIG := big_mem 1645 (by decide +kernel) rfl
theorem w_91efeed2 : (Jvm.Cond.selects "VerseCommittee$Choices" ({ cls := "VerseCommittee$Choices", name := "readRow", desc := "(I)Z" } : Jvm.MethodName) ({ cls := "VerseCommittee$Choices", name := "readRow", desc := "(I)Z" } : Jvm.MethodName)) ∈ BIG := big_mem 1371 (by decide +kernel) rfl
theorem w_91eff4ec : (Jvm.Cond.methodLink "VerseCommittee$Parser" (69 : Nat) ({ cls := "VerseCommittee$Parser", name := "readRanks", desc := "(I)Z" } : Jvm.MethodName)) ∈ BIG := big_mem 806 (by decide +kernel) rfl
theorem w_91f52220 : (Jvm.Cond.methodLink "VerseCommittee$Reckoner" (73 : Nat) ({ cls := "VerseCommittee$Reckoner", name := "findCopy", desc := "()V" } : Jvm.MethodName)) ∈ BIG := big_mem 870 (by decide +kernel) rfl
theorem w_920b7440 : (Jvm.Cond.methodLink "VerseCommittee" (389 : Nat) ({ cls := "VerseCommittee$People", name := "scholars", desc := "()I" } : Jvm.MethodName)) ∈ BIG := big_mem 1597 (by decide +kernel) rfl
theorem w_92282f47 : (Jvm.Cond.methodLink "VerseCommittee$Shelf" (34 : Nat) ({ cls := "VerseCommittee$Shelf", name := "isFull", desc := "()Z" } : Jvm.MethodName)) ∈ BIG := big_mem 1079 (by decide +kernel) rfl
theorem w_9260ba25 : (Jvm.Cond.fieldLink "VerseCommitteeModel" (147 : Nat) "VerseCommitteeModel" "hundredths" "[I") ∈ BIG := big_mem 1687 (by decide +kernel) rfl
theorem w_932ca89b : (Jvm.Cond.methodLink "VerseCommitteeLaw" (81 : Nat) ({ cls := "VerseCommittee", name := "render", desc := "(III)I" } : Jvm.MethodName)) ∈ BIG := big_mem 1001 (by decide +kernel) rfl
theorem w_935b0c54 : (Jvm.Cond.methodLink "VerseCommitteeModel" (481 : Nat) ({ cls := "VerseCommitteeModel", name := "areTurnedAlike", desc := "(IIII)Z" } : Jvm.MethodName)) ∈ BIG := big_mem 2262 (by decide +kernel) rfl
theorem w_93810df2 : (Jvm.Cond.instanceMethod ({ cls := "VerseCommittee$Findings", name := "<init>", desc := "(LVerseCommittee$Laws;LVerseCommittee$Verses;LVerseCommittee$Reckoner;LVerseCommittee$Shelf;)V" } : Jvm.MethodName)) ∈ BIG := big_mem 402 (by decide +kernel) rfl
theorem w_93ab22ad : (Jvm.Cond.code ({ cls := "VerseCommitteeModel", name := "rules", desc := "(IIII)I" } : Jvm.MethodName) prog_14_method_51_code (6 : Nat) (Option.some Jvm.ClassFile.FieldType.int)) ∈ BIG := big_mem 1994 (by decide +kernel) rfl
theorem w_93bdf145 : (Jvm.Cond.code ({ cls := "VerseCommittee$Reckoner", name := "reckonFactor", desc := "(ZI)I" } : Jvm.MethodName) prog_8_method_19_code (4 : Nat) (Option.some Jvm.ClassFile.FieldType.int)) ∈ BIG := big_mem 948 (by decide +kernel) rfl
theorem w_93c426f0 : (Jvm.Cond.initialized "VerseCommittee") ∈ BIG := big_mem 149 (by decide +kernel) rfl
theorem w_93c535fb : (Jvm.Cond.code ({ cls := "VerseCommittee$Shelf", name := "enter", desc := "(LVerseCommittee$Rendering;)I" } : Jvm.MethodName) prog_10_method_4_code (2 : Nat) (Option.some Jvm.ClassFile.FieldType.int)) ∈ BIG := big_mem 1078 (by decide +kernel) rfl
theorem w_93d33b7e : (Jvm.Cond.selects "VerseCommitteeModel" ({ cls := "VerseCommitteeModel", name := "fixedAt", desc := "(II)I" } : Jvm.MethodName) ({ cls := "VerseCommitteeModel", name := "fixedAt", desc := "(II)I" } : Jvm.MethodName)) ∈ BIG := big_mem 122 (by decide +kernel) rfl
theorem w_93e99856 : (Jvm.Cond.methodLink "VerseCommittee" (163 : Nat) ({ cls := "VerseCommittee$Laws", name := "isFull", desc := "()Z" } : Jvm.MethodName)) ∈ BIG := big_mem 718 (by decide +kernel) rfl
theorem w_9401b925 : (Jvm.Cond.instanceMethod ({ cls := "VerseCommitteeModel", name := "isRendering", desc := "(I)Z" } : Jvm.MethodName)) ∈ BIG := big_mem 2172 (by decide +kernel) rfl
theorem w_94115268 : (Jvm.Cond.instanceMethod ({ cls := "VerseCommittee$Rendering", name := "wordAt", desc := "(I)I" } : Jvm.MethodName)) ∈ BIG := big_mem 1331 (by decide +kernel) rfl
theorem w_941c1815 : (Jvm.Cond.code ({ cls := "VerseCommittee$Findings", name := "seekBreach", desc := "(LVerseCommittee$Rendering;II)Z" } : Jvm.MethodName) prog_3_method_4_code (8 : Nat) (Option.some Jvm.ClassFile.FieldType.boolean)) ∈ BIG := big_mem 1224 (by decide +kernel) rfl
theorem w_9426e777 : (Jvm.Cond.instanceMethod ({ cls := "VerseCommittee$Rendering", name := "turnsLike", desc := "(ILVerseCommittee$Rendering;I)Z" } : Jvm.MethodName)) ∈ BIG := big_mem 1319 (by decide +kernel) rfl
theorem w_9427cfc6 : (Jvm.Cond.instanceMethod ({ cls := "VerseCommittee$Planner", name := "give", desc := "(II)V" } : Jvm.MethodName)) ∈ BIG := big_mem 1535 (by decide +kernel) rfl
theorem w_94375bab : (Jvm.Cond.code ({ cls := "VerseCommitteeModel", name := "isOwn", desc := "(II)Z" } : Jvm.MethodName) prog_14_method_16_code (4 : Nat) (Option.some Jvm.ClassFile.FieldType.boolean)) ∈ BIG := big_mem 1955 (by decide +kernel) rfl
theorem w_946f16b4 : (Jvm.Cond.instanceMethod ({ cls := "VerseCommittee$Laws", name := "start", desc := "(I)I" } : Jvm.MethodName)) ∈ BIG := big_mem 910 (by decide +kernel) rfl
theorem w_948dbad4 : (Jvm.Cond.fieldLink "VerseCommitteeModel" (153 : Nat) "VerseCommitteeModel" "yesThen" "[I") ∈ BIG := big_mem 1689 (by decide +kernel) rfl
theorem w_949935a0 : (Jvm.Cond.instanceMethod ({ cls := "VerseCommitteeModel", name := "scholar", desc := "(IZ)I" } : Jvm.MethodName)) ∈ BIG := big_mem 1988 (by decide +kernel) rfl
theorem w_94a7f399 : (Jvm.Cond.code ({ cls := "VerseCommittee$Choices", name := "mayStand", desc := "(I)Z" } : Jvm.MethodName) prog_2_method_13_code (3 : Nat) (Option.some Jvm.ClassFile.FieldType.boolean)) ∈ BIG := big_mem 1415 (by decide +kernel) rfl
theorem w_95620601 : (Jvm.Cond.fieldLink "VerseCommittee$Verses" (9 : Nat) "VerseCommittee$Verses" "books" "[I") ∈ BIG := big_mem 198 (by decide +kernel) rfl
theorem w_9577ca1f : (Jvm.Cond.code ({ cls := "VerseCommitteeModel", name := "word", desc := "(I)I" } : Jvm.MethodName) prog_14_method_17_code (3 : Nat) (Option.some Jvm.ClassFile.FieldType.int)) ∈ BIG := big_mem 1947 (by decide +kernel) rfl
theorem w_957bec15 : (Jvm.Cond.methodLink "VerseCommittee$Choices" (119 : Nat) ({ cls := "VerseCommittee$Rendering", name := "turnAt", desc := "(I)I" } : Jvm.MethodName)) ∈ BIG := big_mem 1385 (by decide +kernel) rfl
theorem w_958c8ad5 : (Jvm.Cond.code ({ cls := "VerseCommitteeModel", name := "apart", desc := "(II)Z" } : Jvm.MethodName) prog_14_method_97_code (3 : Nat) (Option.some Jvm.ClassFile.FieldType.boolean)) ∈ BIG := big_mem 2285 (by decide +kernel) rfl
theorem w_95976dab : (Jvm.Cond.methodLink "VerseCommittee" (109 : Nat) ({ cls := "VerseCommittee$Verses", name := "enter", desc := "(II)I" } : Jvm.MethodName)) ∈ BIG := big_mem 595 (by decide +kernel) rfl
theorem w_95c82333 : (Jvm.Cond.selects "VerseCommitteeModel" ({ cls := "VerseCommitteeModel", name := "render", desc := "(III)I" } : Jvm.MethodName) ({ cls := "VerseCommitteeModel", name := "render", desc := "(III)I" } : Jvm.MethodName)) ∈ BIG := big_mem 2160 (by decide +kernel) rfl
theorem w_95d34878 : (Jvm.Cond.code ({ cls := "VerseCommittee$Reckoner", name := "letterValue", desc := "(I)I" } : Jvm.MethodName) prog_8_method_22_code (2 : Nat) (Option.some Jvm.ClassFile.FieldType.int)) ∈ BIG := big_mem 959 (by decide +kernel) rfl
theorem w_95e0e7ec : (Jvm.Cond.selects "VerseCommittee$Shelf" ({ cls := "VerseCommittee$Shelf", name := "fixedThen", desc := "(II)I" } : Jvm.MethodName) ({ cls := "VerseCommittee$Shelf", name := "fixedThen", desc := "(II)I" } : Jvm.MethodName)) ∈ BIG := big_mem 1215 (by decide +kernel) rfl
theorem w_95e63f80 : (Jvm.Cond.methodLink "VerseCommittee$Choices" (84 : Nat) ({ cls := "VerseCommittee$Choices", name := "choiceOfRow", desc := "()I" } : Jvm.MethodName)) ∈ BIG := big_mem 1433 (by decide +kernel) rfl
theorem w_961e12f2 : (Jvm.Cond.static ({ cls := "VerseCommittee$Laws", name := "isNumber", desc := "(I)Z" } : Jvm.MethodName)) ∈ BIG := big_mem 889 (by decide +kernel) rfl
theorem w_962c258c : (Jvm.Cond.selects "VerseCommitteeModel" ({ cls := "VerseCommitteeModel", name := "look", desc := "(II)I" } : Jvm.MethodName) ({ cls := "VerseCommitteeModel", name := "look", desc := "(II)I" } : Jvm.MethodName)) ∈ BIG := big_mem 2389 (by decide +kernel) rfl
theorem w_969b545e : (Jvm.Cond.fieldLink "VerseCommittee$Planner" (15 : Nat) "VerseCommittee$Planner" "books" "[I") ∈ BIG := big_mem 506 (by decide +kernel) rfl
theorem w_96a3ff5c : (Jvm.Cond.fieldLink "VerseCommitteeModel" (105 : Nat) "VerseCommitteeModel" "least" "[I") ∈ BIG := big_mem 1673 (by decide +kernel) rfl
theorem w_96f9ca45 : (Jvm.Cond.methodLink "VerseCommittee$Choices" (146 : Nat) ({ cls := "VerseCommittee$Laws", name := "subject", desc := "(I)I" } : Jvm.MethodName)) ∈ BIG := big_mem 1400 (by decide +kernel) rfl
theorem w_96fb1d4d : (Jvm.Cond.selects "VerseCommittee" ({ cls := "VerseCommittee", name := "signOfAdded", desc := "(III)I" } : Jvm.MethodName) ({ cls := "VerseCommittee", name := "signOfAdded", desc := "(III)I" } : Jvm.MethodName)) ∈ BIG := big_mem 65 (by decide +kernel) rfl
theorem w_973434af : (Jvm.Cond.methodLink "VerseCommittee$Reckoner" (106 : Nat) ({ cls := "VerseCommittee$Reckoner", name := "reckonCondition", desc := "(ZI)Z" } : Jvm.MethodName)) ∈ BIG := big_mem 921 (by decide +kernel) rfl
theorem w_9744b0fe : (Jvm.Cond.code ({ cls := "VerseCommittee$Parser", name := "readRest", desc := "(I)Z" } : Jvm.MethodName) prog_5_method_13_code (3 : Nat) (Option.some Jvm.ClassFile.FieldType.boolean)) ∈ BIG := big_mem 817 (by decide +kernel) rfl
theorem w_97452904 : (Jvm.Cond.code ({ cls := "VerseCommitteeModel", name := "prices", desc := "()V" } : Jvm.MethodName) prog_14_method_99_code (6 : Nat) (Option.none : Option Jvm.ClassFile.FieldType)) ∈ BIG := big_mem 2300 (by decide +kernel) rfl
theorem w_974aaccb : (Jvm.Cond.methodLink "VerseCommitteeLaw" (89 : Nat) ({ cls := "VerseCommitteeModel", name := "vote", desc := "(IIZ)Z" } : Jvm.MethodName)) ∈ BIG := big_mem 2162 (by decide +kernel) rfl
theorem w_974f4941 : (Jvm.Cond.selects "VerseCommitteeModel" ({ cls := "VerseCommitteeModel", name := "bestRow", desc := "()I" } : Jvm.MethodName) ({ cls := "VerseCommitteeModel", name := "bestRow", desc := "()I" } : Jvm.MethodName)) ∈ BIG := big_mem 143 (by decide +kernel) rfl
theorem w_977c7d75 : (Jvm.Cond.instanceMethod ({ cls := "VerseCommittee$Findings", name := "seekQuarrel", desc := "(III)Z" } : Jvm.MethodName)) ∈ BIG := big_mem 1280 (by decide +kernel) rfl
theorem w_97afe92a : (Jvm.Cond.code ({ cls := "VerseCommittee", name := "token", desc := "(III)I" } : Jvm.MethodName) prog_1_method_15_code (5 : Nat) (Option.some Jvm.ClassFile.FieldType.int)) ∈ BIG := big_mem 990 (by decide +kernel) rfl
theorem w_97e31d16 : (Jvm.Cond.fieldLink "VerseCommittee$Laws" (29 : Nat) "VerseCommittee$Laws" "kinds" "[I") ∈ BIG := big_mem 260 (by decide +kernel) rfl
theorem w_97f41546 : (Jvm.Cond.selects "VerseCommittee$Rendering" ({ cls := "VerseCommittee$Rendering", name := "tellSlot", desc := "(I)I" } : Jvm.MethodName) ({ cls := "VerseCommittee$Rendering", name := "tellSlot", desc := "(I)I" } : Jvm.MethodName)) ∈ BIG := big_mem 73 (by decide +kernel) rfl
theorem w_97fa04d4 : (Jvm.Cond.selects "VerseCommittee$Parser" ({ cls := "VerseCommittee$Parser", name := "readTail", desc := "(II)Z" } : Jvm.MethodName) ({ cls := "VerseCommittee$Parser", name := "readTail", desc := "(II)Z" } : Jvm.MethodName)) ∈ BIG := big_mem 13 (by decide +kernel) rfl
theorem w_982f217e : (Jvm.Cond.instanceMethod ({ cls := "VerseCommittee$Choices", name := "mayStand", desc := "(I)Z" } : Jvm.MethodName)) ∈ BIG := big_mem 1414 (by decide +kernel) rfl
theorem w_985101fa : (Jvm.Cond.instanceMethod ({ cls := "VerseCommitteeModel", name := "areTurnedAlike", desc := "(IIII)Z" } : Jvm.MethodName)) ∈ BIG := big_mem 2264 (by decide +kernel) rfl
theorem w_9896a829 : (Jvm.Cond.methodLink "VerseCommitteeLaw" (59 : Nat) ({ cls := "VerseCommittee", name := "rules", desc := "(IIII)I" } : Jvm.MethodName)) ∈ BIG := big_mem 714 (by decide +kernel) rfl
theorem w_9897ad45 : (Jvm.Cond.code ({ cls := "VerseCommittee$Planner", name := "daysOfCentre", desc := "()I" } : Jvm.MethodName) prog_7_method_5_code (3 : Nat) (Option.some Jvm.ClassFile.FieldType.int)) ∈ BIG := big_mem 1525 (by decide +kernel) rfl
theorem w_98bb58ca : (Jvm.Cond.methodLink "VerseCommitteeLaw" (63 : Nat) ({ cls := "VerseCommitteeModel", name := "rules", desc := "(IIII)I" } : Jvm.MethodName)) ∈ BIG := big_mem 1991 (by decide +kernel) rfl
theorem w_98ff4964 : (Jvm.Cond.code ({ cls := "VerseCommittee$Reckoner", name := "hundredths", desc := "(I)I" } : Jvm.MethodName) prog_8_method_7_code (3 : Nat) (Option.some Jvm.ClassFile.FieldType.int)) ∈ BIG := big_mem 970 (by decide +kernel) rfl
theorem w_99008525 : (Jvm.Cond.methodLink "VerseCommitteeLaw" (127 : Nat) ({ cls := "VerseCommittee", name := "apart", desc := "(II)Z" } : Jvm.MethodName)) ∈ BIG := big_mem 1353 (by decide +kernel) rfl
theorem w_99178f5d : (Jvm.Cond.instanceMethod ({ cls := "VerseCommittee", name := "wordsFixedThen", desc := "(II)[I" } : Jvm.MethodName)) ∈ BIG := big_mem 1477 (by decide +kernel) rfl
theorem w_993174b4 : (Jvm.Cond.fieldLink "VerseCommitteeModel" (189 : Nat) "VerseCommitteeModel" "isBarred" "[Z") ∈ BIG := big_mem 1710 (by decide +kernel) rfl
theorem w_99510492 : (Jvm.Cond.static ({ cls := "VerseCommitteeModel", name := "isPlus", desc := "(I)Z" } : Jvm.MethodName)) ∈ BIG := big_mem 2074 (by decide +kernel) rfl
theorem w_99934f7b : (Jvm.Cond.methodLink "VerseCommitteeLaw" (160 : Nat) ({ cls := "VerseCommitteeModel", name := "printed", desc := "(III)I" } : Jvm.MethodName)) ∈ BIG := big_mem 2344 (by decide +kernel) rfl
theorem w_99bf5325 : (Jvm.Cond.methodLink "VerseCommittee" (370 : Nat) ({ cls := "VerseCommittee$Words", name := "letterIn", desc := "(III)I" } : Jvm.MethodName)) ∈ BIG := big_mem 1501 (by decide +kernel) rfl
theorem w_99c82c69 : (Jvm.Cond.methodLink "VerseCommitteeLaw" (109 : Nat) ({ cls := "VerseCommitteeModel", name := "breaches", desc := "(I)I" } : Jvm.MethodName)) ∈ BIG := big_mem 2218 (by decide +kernel) rfl
theorem w_99e71542 : (Jvm.Cond.selects "VerseCommitteeModel" ({ cls := "VerseCommitteeModel", name := "isAhead", desc := "(IIII)Z" } : Jvm.MethodName) ({ cls := "VerseCommitteeModel", name := "isAhead", desc := "(IIII)Z" } : Jvm.MethodName)) ∈ BIG := big_mem 139 (by decide +kernel) rfl
theorem w_9a4fc2d1 : (Jvm.Cond.methodLink "VerseCommittee$Laws" (67 : Nat) ({ cls := "VerseCommittee$Laws", name := "speaksOf", desc := "(II)Z" } : Jvm.MethodName)) ∈ BIG := big_mem 1244 (by decide +kernel) rfl
theorem w_9a69e756 : (Jvm.Cond.instanceMethod ({ cls := "VerseCommittee$People", name := "voters", desc := "(II)I" } : Jvm.MethodName)) ∈ BIG := big_mem 1107 (by decide +kernel) rfl
theorem w_9a7b24e9 : (Jvm.Cond.code ({ cls := "VerseCommittee$Laws", name := "enact", desc := "([III)I" } : Jvm.MethodName) prog_4_method_12_code (6 : Nat) (Option.some Jvm.ClassFile.FieldType.int)) ∈ BIG := big_mem 829 (by decide +kernel) rfl
theorem w_9a8fd219 : (Jvm.Cond.code ({ cls := "VerseCommittee$People", name := "companyOf", desc := "(I)I" } : Jvm.MethodName) prog_6_method_14_code (3 : Nat) (Option.some Jvm.ClassFile.FieldType.int)) ∈ BIG := big_mem 857 (by decide +kernel) rfl
theorem w_9ab04f75 : (Jvm.Cond.code ({ cls := "VerseCommittee$Laws", name := "hasClause", desc := "(II)Z" } : Jvm.MethodName) prog_4_method_8_code (3 : Nat) (Option.some Jvm.ClassFile.FieldType.boolean)) ∈ BIG := big_mem 837 (by decide +kernel) rfl
theorem w_9abb86b6 : (Jvm.Cond.methodLink "VerseCommittee$Choices" (102 : Nat) ({ cls := "VerseCommittee$Choices", name := "addPrices", desc := "(LVerseCommittee$Rendering;)V" } : Jvm.MethodName)) ∈ BIG := big_mem 1379 (by decide +kernel) rfl
theorem w_9ad6d0ed : (Jvm.Cond.fieldLink "VerseCommitteeModel" (210 : Nat) "VerseCommitteeModel" "verses" "I") ∈ BIG := big_mem 1627 (by decide +kernel) rfl
theorem w_9ae93726 : (Jvm.Cond.static ({ cls := "VerseCommittee$Laws", name := "clauseOf", desc := "(II)I" } : Jvm.MethodName)) ∈ BIG := big_mem 744 (by decide +kernel) rfl
theorem w_9b1c79d6 : (Jvm.Cond.code ({ cls := "VerseCommittee$People", name := "hasCompany", desc := "(I)Z" } : Jvm.MethodName) prog_6_method_4_code (2 : Nat) (Option.some Jvm.ClassFile.FieldType.boolean)) ∈ BIG := big_mem 708 (by decide +kernel) rfl
theorem w_9b50f69c : (Jvm.Cond.fieldLink "VerseCommittee" (98 : Nat) "VerseCommittee" "today" "I") ∈ BIG := big_mem 546 (by decide +kernel) rfl
theorem w_9b9d7b56 : (Jvm.Cond.instanceMethod ({ cls := "VerseCommittee", name := "scholar", desc := "(IZ)I" } : Jvm.MethodName)) ∈ BIG := big_mem 702 (by decide +kernel) rfl
theorem w_9bb9a816 : (Jvm.Cond.selects "VerseCommittee$Shelf" ({ cls := "VerseCommittee$Shelf", name := "fixedNumber", desc := "(I)I" } : Jvm.MethodName) ({ cls := "VerseCommittee$Shelf", name := "fixedNumber", desc := "(I)I" } : Jvm.MethodName)) ∈ BIG := big_mem 1142 (by decide +kernel) rfl
theorem w_9beb53fe : (Jvm.Cond.instanceMethod ({ cls := "VerseCommittee$Parser", name := "fail", desc := "(II)Z" } : Jvm.MethodName)) ∈ BIG := big_mem 736 (by decide +kernel) rfl
theorem w_9c13f5ab : (Jvm.Cond.methodLink "VerseCommitteeLaw" (9 : Nat) ({ cls := "VerseCommittee", name := "<init>", desc := "()V" } : Jvm.MethodName)) ∈ BIG := big_mem 166 (by decide +kernel) rfl
theorem w_9c277d0d : (Jvm.Cond.fieldLink "VerseCommitteeModel" (262 : Nat) "VerseCommitteeModel" "scholars" "I") ∈ BIG := big_mem 1630 (by decide +kernel) rfl
theorem w_9c27af3c : (Jvm.Cond.selects "VerseCommittee" ({ cls := "VerseCommittee", name := "look", desc := "(II)I" } : Jvm.MethodName) ({ cls := "VerseCommittee", name := "look", desc := "(II)I" } : Jvm.MethodName)) ∈ BIG := big_mem 1573 (by decide +kernel) rfl
theorem w_9c3aefa5 : (Jvm.Cond.instanceMethod ({ cls := "VerseCommittee$Verses", name := "size", desc := "()I" } : Jvm.MethodName)) ∈ BIG := big_mem 1298 (by decide +kernel) rfl
theorem w_9c6a6298 : (Jvm.Cond.fieldLink "VerseCommittee$Shelf" (17 : Nat) "VerseCommittee$Shelf" "fixedOf" "[I") ∈ BIG := big_mem 298 (by decide +kernel) rfl
theorem w_9c861c1d : (Jvm.Cond.code ({ cls := "VerseCommitteeModel", name := "must", desc := "(I)V" } : Jvm.MethodName) prog_14_method_35_code (2 : Nat) (Option.none : Option Jvm.ClassFile.FieldType)) ∈ BIG := big_mem 2030 (by decide +kernel) rfl
theorem w_9c99305b : (Jvm.Cond.instanceMethod ({ cls := "VerseCommittee$Rendering", name := "stateNumber", desc := "()I" } : Jvm.MethodName)) ∈ BIG := big_mem 1172 (by decide +kernel) rfl
theorem w_9c9cd915 : (Jvm.Cond.code ({ cls := "VerseCommitteeModel", name := "one", desc := "()I" } : Jvm.MethodName) prog_14_method_106_code (3 : Nat) (Option.some Jvm.ClassFile.FieldType.int)) ∈ BIG := big_mem 2316 (by decide +kernel) rfl
theorem w_9cafe9ab : (Jvm.Cond.fieldLink "VerseCommitteeModel" (144 : Nat) "VerseCommitteeModel" "all" "[I") ∈ BIG := big_mem 1686 (by decide +kernel) rfl
theorem w_9cda8a9e : (Jvm.Cond.code ({ cls := "VerseCommitteeModel", name := "valueOf", desc := "(III)I" } : Jvm.MethodName) prog_14_method_59_code (4 : Nat) (Option.some Jvm.ClassFile.FieldType.int)) ∈ BIG := big_mem 2149 (by decide +kernel) rfl
theorem w_9cdfd9c9 : (Jvm.Cond.fieldLink "VerseCommitteeModel" (352 : Nat) "VerseCommitteeModel" "isDone" "Z") ∈ BIG := big_mem 1666 (by decide +kernel) rfl
theorem w_9ce54d86 : (Jvm.Cond.selects "VerseCommittee$Findings" ({ cls := "VerseCommittee$Findings", name := "seekBreach", desc := "(LVerseCommittee$Rendering;II)Z" } : Jvm.MethodName) ({ cls := "VerseCommittee$Findings", name := "seekBreach", desc := "(LVerseCommittee$Rendering;II)Z" } : Jvm.MethodName)) ∈ BIG := big_mem 1223 (by decide +kernel) rfl
theorem w_9cfcec69 : (Jvm.Cond.methodLink "VerseCommitteeLaw" (173 : Nat) ({ cls := "VerseCommittee", name := "look", desc := "(II)I" } : Jvm.MethodName)) ∈ BIG := big_mem 1571 (by decide +kernel) rfl
theorem w_9cff2cfb : (Jvm.Cond.fieldLink "VerseCommittee$Choices" (39 : Nat) "VerseCommittee$Choices" "verses" "LVerseCommittee$Verses;") ∈ BIG := big_mem 453 (by decide +kernel) rfl
theorem w_9d062a5a : (Jvm.Cond.code ({ cls := "VerseCommittee", name := "judge", desc := "(I)I" } : Jvm.MethodName) prog_1_method_37_code (2 : Nat) (Option.some Jvm.ClassFile.FieldType.int)) ∈ BIG := big_mem 1558 (by decide +kernel) rfl
theorem w_9d0cd1f7 : (Jvm.Cond.methodLink "VerseCommittee$Reckoner" (150 : Nat) ({ cls := "VerseCommittee$Reckoner", name := "isTermSign", desc := "(I)Z" } : Jvm.MethodName)) ∈ BIG := big_mem 960 (by decide +kernel) rfl
theorem w_9d6d98d0 : (Jvm.Cond.instanceMethod ({ cls := "VerseCommittee$Reckoner", name := "companyThere", desc := "()I" } : Jvm.MethodName)) ∈ BIG := big_mem 984 (by decide +kernel) rfl
theorem w_9d7bb5d3 : (Jvm.Cond.selects "VerseCommitteeModel" ({ cls := "VerseCommitteeModel", name := "areTurnedAlike", desc := "(IIII)Z" } : Jvm.MethodName) ({ cls := "VerseCommitteeModel", name := "areTurnedAlike", desc := "(IIII)Z" } : Jvm.MethodName)) ∈ BIG := big_mem 130 (by decide +kernel) rfl
theorem w_9dbd184a : (Jvm.Cond.code ({ cls := "VerseCommittee$Findings", name := "addPlaces", desc := "(I[I)V" } : Jvm.MethodName) prog_3_method_12_code (4 : Nat) (Option.none : Option Jvm.ClassFile.FieldType)) ∈ BIG := big_mem 1309 (by decide +kernel) rfl
theorem w_9df9bf82 : (Jvm.Cond.fieldLink "VerseCommitteeModel" (271 : Nat) "VerseCommitteeModel" "end" "I") ∈ BIG := big_mem 1660 (by decide +kernel) rfl
theorem w_9e248573 : (Jvm.Cond.selects "VerseCommitteeModel" ({ cls := "VerseCommitteeModel", name := "isOpen", desc := "(I)Z" } : Jvm.MethodName) ({ cls := "VerseCommitteeModel", name := "isOpen", desc := "(I)Z" } : Jvm.MethodName)) ∈ BIG := big_mem 114 (by decide +kernel) rfl
theorem w_9e316cc8 : (Jvm.Cond.methodLink "VerseCommitteeModel" (557 : Nat) ({ cls := "VerseCommitteeModel", name := "daysBy", desc := "(I)I" } : Jvm.MethodName)) ∈ BIG := big_mem 2368 (by decide +kernel) rfl
theorem w_9e31d9d8 : (Jvm.Cond.instanceMethod ({ cls := "VerseCommitteeModel", name := "isAsked", desc := "(III)Z" } : Jvm.MethodName)) ∈ BIG := big_mem 2248 (by decide +kernel) rfl
theorem w_9e42a540 : (Jvm.Cond.instanceMethod ({ cls := "VerseCommitteeModel", name := "joins", desc := "(Z)V" } : Jvm.MethodName)) ∈ BIG := big_mem 2097 (by decide +kernel) rfl
theorem w_9e484f8b : (Jvm.Cond.fieldLink "VerseCommitteeModel" (168 : Nat) "VerseCommitteeModel" "tDay" "[I") ∈ BIG := big_mem 1695 (by decide +kernel) rfl
theorem w_9e71d848 : (Jvm.Cond.instanceMethod ({ cls := "VerseCommitteeModel", name := "option", desc := "(II)Z" } : Jvm.MethodName)) ∈ BIG := big_mem 2275 (by decide +kernel) rfl
theorem w_9efb466a : (Jvm.Cond.selects "VerseCommittee$Verses" ({ cls := "VerseCommittee$Verses", name := "enter", desc := "(II)I" } : Jvm.MethodName) ({ cls := "VerseCommittee$Verses", name := "enter", desc := "(II)I" } : Jvm.MethodName)) ∈ BIG := big_mem 597 (by decide +kernel) rfl
theorem w_9f0cf532 : (Jvm.Cond.code ({ cls := "VerseCommittee$Rendering", name := "fill", desc := "([II)V" } : Jvm.MethodName) prog_9_method_2_code (4 : Nat) (Option.none : Option Jvm.ClassFile.FieldType)) ∈ BIG := big_mem 1074 (by decide +kernel) rfl
theorem w_9f3d74bc : (Jvm.Cond.code ({ cls := "VerseCommitteeModel", name := "leftOf", desc := "(I)I" } : Jvm.MethodName) prog_14_method_124_code (4 : Nat) (Option.some Jvm.ClassFile.FieldType.int)) ∈ BIG := big_mem 2394 (by decide +kernel) rfl
theorem w_9f525a8b : (Jvm.Cond.methodLink "VerseCommittee$Shelf" (49 : Nat) ({ cls := "VerseCommittee$Rendering", name := "stateNumber", desc := "()I" } : Jvm.MethodName)) ∈ BIG := big_mem 1195 (by decide +kernel) rfl
theorem w_9f58f46a : (Jvm.Cond.instanceMethod ({ cls := "VerseCommittee", name := "line", desc := "(I)I" } : Jvm.MethodName)) ∈ BIG := big_mem 1442 (by decide +kernel) rfl
theorem w_9f7f29b8 : (Jvm.Cond.fieldLink "VerseCommittee$Parser" (13 : Nat) "VerseCommittee$Parser" "text" "[I") ∈ BIG := big_mem 328 (by decide +kernel) rfl
theorem w_9f8f3618 : (Jvm.Cond.instanceMethod ({ cls := "VerseCommittee", name := "differ", desc := "(III)I" } : Jvm.MethodName)) ∈ BIG := big_mem 993 (by decide +kernel) rfl
theorem w_9fc67605 : (Jvm.Cond.code ({ cls := "VerseCommitteeModel", name := "readsRank", desc := "(I)V" } : Jvm.MethodName) prog_14_method_49_code (5 : Nat) (Option.none : Option Jvm.ClassFile.FieldType)) ∈ BIG := big_mem 2034 (by decide +kernel) rfl
theorem w_a004040e : (Jvm.Cond.fieldLink "VerseCommitteeModel" (207 : Nat) "VerseCommitteeModel" "load" "[I") ∈ BIG := big_mem 1719 (by decide +kernel) rfl
theorem w_a026add7 : (Jvm.Cond.methodLink "VerseCommitteeModel" (252 : Nat) ({ cls := "VerseCommitteeModel", name := "syllablesOf", desc := "(I)I" } : Jvm.MethodName)) ∈ BIG := big_mem 1972 (by decide +kernel) rfl
theorem w_a043c6eb : (Jvm.Cond.instanceMethod ({ cls := "VerseCommittee", name := "firstWrongByte", desc := "(I)I" } : Jvm.MethodName)) ∈ BIG := big_mem 1569 (by decide +kernel) rfl
theorem w_a0446793 : (Jvm.Cond.methodLink "VerseCommittee" (260 : Nat) ({ cls := "VerseCommittee$Rendering", name := "wouldGoOn", desc := "(II)Z" } : Jvm.MethodName)) ∈ BIG := big_mem 1119 (by decide +kernel) rfl
theorem w_a082927b : (Jvm.Cond.selects "VerseCommittee" ({ cls := "VerseCommittee", name := "voids", desc := "(I)I" } : Jvm.MethodName) ({ cls := "VerseCommittee", name := "voids", desc := "(I)I" } : Jvm.MethodName)) ∈ BIG := big_mem 1177 (by decide +kernel) rfl
theorem w_a10f8083 : (Jvm.Cond.selects "VerseCommitteeModel" ({ cls := "VerseCommitteeModel", name := "prints", desc := "(I)V" } : Jvm.MethodName) ({ cls := "VerseCommitteeModel", name := "prints", desc := "(I)V" } : Jvm.MethodName)) ∈ BIG := big_mem 141 (by decide +kernel) rfl
theorem w_a183a901 : (Jvm.Cond.code ({ cls := "VerseCommitteeModel", name := "<init>", desc := "()V" } : Jvm.MethodName) prog_14_method_1_code (1 : Nat) (Option.none : Option Jvm.ClassFile.FieldType)) ∈ BIG := big_mem 1622 (by decide +kernel) rfl
theorem w_a1c15f02 : (Jvm.Cond.fieldLink "VerseCommitteeModel" (192 : Nat) "VerseCommitteeModel" "told" "[I") ∈ BIG := big_mem 1711 (by decide +kernel) rfl
theorem w_a1c9f63d : (Jvm.Cond.instanceMethod ({ cls := "VerseCommittee$People", name := "hasScholar", desc := "(I)Z" } : Jvm.MethodName)) ∈ BIG := big_mem 1006 (by decide +kernel) rfl
theorem w_a1def011 : (Jvm.Cond.fieldLink "VerseCommittee$People" (35 : Nat) "VerseCommittee$People" "centreRate" "I") ∈ BIG := big_mem 227 (by decide +kernel) rfl
theorem w_a20652f6 : (Jvm.Cond.code ({ cls := "VerseCommittee$Parser", name := "readOpening", desc := "(I)Z" } : Jvm.MethodName) prog_5_method_18_code (2 : Nat) (Option.some Jvm.ClassFile.FieldType.boolean)) ∈ BIG := big_mem 784 (by decide +kernel) rfl
theorem w_a20b19e2 : (Jvm.Cond.methodLink "VerseCommittee$Choices" (159 : Nat) ({ cls := "VerseCommittee$Choices", name := "barOthers", desc := "(II)V" } : Jvm.MethodName)) ∈ BIG := big_mem 1404 (by decide +kernel) rfl
theorem w_a2393d19 : (Jvm.Cond.instanceMethod ({ cls := "VerseCommittee", name := "holds", desc := "(IIII)I" } : Jvm.MethodName)) ∈ BIG := big_mem 831 (by decide +kernel) rfl
theorem w_a25e071e : (Jvm.Cond.methodLink "VerseCommittee" (46 : Nat) ({ cls := "VerseCommittee$Shelf", name := "<init>", desc := "()V" } : Jvm.MethodName)) ∈ BIG := big_mem 291 (by decide +kernel) rfl
theorem w_a28708c6 : (Jvm.Cond.code ({ cls := "VerseCommittee", name := "differ", desc := "(III)I" } : Jvm.MethodName) prog_1_method_16_code (6 : Nat) (Option.some Jvm.ClassFile.FieldType.int)) ∈ BIG := big_mem 995 (by decide +kernel) rfl
theorem w_a29b48fc : (Jvm.Cond.fieldLink "VerseCommittee$Parser" (44 : Nat) "VerseCommittee$Parser" "faultPlace" "I") ∈ BIG := big_mem 332 (by decide +kernel) rfl
theorem w_a2a26d7d : (Jvm.Cond.selects "VerseCommitteeModel" ({ cls := "VerseCommitteeModel", name := "companyOf", desc := "(I)I" } : Jvm.MethodName) ({ cls := "VerseCommitteeModel", name := "companyOf", desc := "(I)I" } : Jvm.MethodName)) ∈ BIG := big_mem 106 (by decide +kernel) rfl
theorem w_a2d98cf2 : (Jvm.Cond.selects "VerseCommittee$Words" ({ cls := "VerseCommittee$Words", name := "enter", desc := "([II)I" } : Jvm.MethodName) ({ cls := "VerseCommittee$Words", name := "enter", desc := "([II)I" } : Jvm.MethodName)) ∈ BIG := big_mem 634 (by decide +kernel) rfl
theorem w_a2e3ca67 : (Jvm.Cond.code ({ cls := "VerseCommitteeModel", name := "mustBeAlike", desc := "(II)Z" } : Jvm.MethodName) prog_14_method_91_code (5 : Nat) (Option.some Jvm.ClassFile.FieldType.boolean)) ∈ BIG := big_mem 2273 (by decide +kernel) rfl
theorem w_a30cd829 : (Jvm.Cond.instanceMethod ({ cls := "VerseCommitteeModel", name := "line", desc := "(I)I" } : Jvm.MethodName)) ∈ BIG := big_mem 2322 (by decide +kernel) rfl
theorem w_a31c6d11 : (Jvm.Cond.instanceMethod ({ cls := "VerseCommitteeModel", name := "close", desc := "(I)I" } : Jvm.MethodName)) ∈ BIG := big_mem 2179 (by decide +kernel) rfl
theorem w_a3278322 : (Jvm.Cond.methodLink "VerseCommittee" (201 : Nat) ({ cls := "VerseCommittee$Reckoner", name := "firstCopy", desc := "()I" } : Jvm.MethodName)) ∈ BIG := big_mem 975 (by decide +kernel) rfl
theorem w_a396485a : (Jvm.Cond.instanceMethod ({ cls := "VerseCommittee", name := "render", desc := "(III)I" } : Jvm.MethodName)) ∈ BIG := big_mem 1002 (by decide +kernel) rfl
theorem w_a39e9eb6 : (Jvm.Cond.code ({ cls := "VerseCommittee$Parser", name := "clausesRead", desc := "()I" } : Jvm.MethodName) prog_5_method_2_code (1 : Nat) (Option.some Jvm.ClassFile.FieldType.int)) ∈ BIG := big_mem 825 (by decide +kernel) rfl
theorem w_a3c50f04 : (Jvm.Cond.methodLink "VerseCommitteeLaw" (172 : Nat) ({ cls := "VerseCommitteeModel", name := "check", desc := "(I)I" } : Jvm.MethodName)) ∈ BIG := big_mem 2379 (by decide +kernel) rfl
theorem w_a3f40f63 : (Jvm.Cond.selects "VerseCommittee$Rendering" ({ cls := "VerseCommittee$Rendering", name := "keepVote", desc := "(II)V" } : Jvm.MethodName) ({ cls := "VerseCommittee$Rendering", name := "keepVote", desc := "(II)V" } : Jvm.MethodName)) ∈ BIG := big_mem 1151 (by decide +kernel) rfl
theorem w_a460d9c6 : (Jvm.Cond.selects "VerseCommittee$Findings" ({ cls := "VerseCommittee$Findings", name := "isUnlike", desc := "(II)Z" } : Jvm.MethodName) ({ cls := "VerseCommittee$Findings", name := "isUnlike", desc := "(II)Z" } : Jvm.MethodName)) ∈ BIG := big_mem 48 (by decide +kernel) rfl
theorem w_a466a997 : (Jvm.Cond.code ({ cls := "VerseCommitteeModel", name := "here", desc := "()I" } : Jvm.MethodName) prog_14_method_26_code (1 : Nat) (Option.some Jvm.ClassFile.FieldType.int)) ∈ BIG := big_mem 2010 (by decide +kernel) rfl
theorem w_a480646b : (Jvm.Cond.selects "VerseCommitteeModel" ({ cls := "VerseCommitteeModel", name := "source", desc := "(III)Z" } : Jvm.MethodName) ({ cls := "VerseCommitteeModel", name := "source", desc := "(III)Z" } : Jvm.MethodName)) ∈ BIG := big_mem 1934 (by decide +kernel) rfl
theorem w_a4a6604d : (Jvm.Cond.fieldLink "VerseCommittee$Choices" (71 : Nat) "VerseCommittee$Choices" "bestPrice" "I") ∈ BIG := big_mem 464 (by decide +kernel) rfl
theorem w_a4ac816c : (Jvm.Cond.methodLink "VerseCommittee$Findings" (146 : Nat) ({ cls := "VerseCommittee$Findings", name := "addPlaces", desc := "(I[I)V" } : Jvm.MethodName)) ∈ BIG := big_mem 1306 (by decide +kernel) rfl
theorem w_a4eb44e5 : (Jvm.Cond.methodLink "VerseCommittee" (198 : Nat) ({ cls := "VerseCommittee$Reckoner", name := "restDays", desc := "()I" } : Jvm.MethodName)) ∈ BIG := big_mem 971 (by decide +kernel) rfl
theorem w_a52c26af : (Jvm.Cond.fieldLink "VerseCommittee$Rendering" (18 : Nat) "VerseCommittee$Rendering" "turns" "[I") ∈ BIG := big_mem 1033 (by decide +kernel) rfl
theorem w_a56ebfb7 : (Jvm.Cond.instanceMethod ({ cls := "VerseCommittee$Laws", name := "speaksOfAny", desc := "(I[I)Z" } : Jvm.MethodName)) ∈ BIG := big_mem 1241 (by decide +kernel) rfl
theorem w_a574aecf : (Jvm.Cond.methodLink "VerseCommittee$Findings" (106 : Nat) ({ cls := "VerseCommittee$Laws", name := "placeOf", desc := "(I)I" } : Jvm.MethodName)) ∈ BIG := big_mem 1260 (by decide +kernel) rfl
theorem w_a5b9fa1c : (Jvm.Cond.methodLink "VerseCommittee$Choices" (106 : Nat) ({ cls := "VerseCommittee$Rendering", name := "tokenRow", desc := "()[I" } : Jvm.MethodName)) ∈ BIG := big_mem 1383 (by decide +kernel) rfl
theorem w_a5be57bc : (Jvm.Cond.selects "VerseCommittee$Parser" ({ cls := "VerseCommittee$Parser", name := "readNumber", desc := "(I)I" } : Jvm.MethodName) ({ cls := "VerseCommittee$Parser", name := "readNumber", desc := "(I)I" } : Jvm.MethodName)) ∈ BIG := big_mem 11 (by decide +kernel) rfl
theorem w_a5dbb3ff : (Jvm.Cond.methodLink "VerseCommittee$Parser" (108 : Nat) ({ cls := "VerseCommittee$Parser", name := "readTerm", desc := "(I)Z" } : Jvm.MethodName)) ∈ BIG := big_mem 789 (by decide +kernel) rfl
theorem w_a5e174b3 : (Jvm.Cond.code ({ cls := "VerseCommitteeModel", name := "isSign", desc := "(I)Z" } : Jvm.MethodName) prog_14_method_38_code (1 : Nat) (Option.some Jvm.ClassFile.FieldType.boolean)) ∈ BIG := big_mem 2086 (by decide +kernel) rfl
theorem w_a610af6e : (Jvm.Cond.code ({ cls := "VerseCommittee$Parser", name := "readPart", desc := "(I)Z" } : Jvm.MethodName) prog_5_method_16_code (4 : Nat) (Option.some Jvm.ClassFile.FieldType.boolean)) ∈ BIG := big_mem 776 (by decide +kernel) rfl
theorem w_a61cf497 : (Jvm.Cond.instanceMethod ({ cls := "VerseCommitteeModel", name := "daysOf", desc := "(II)I" } : Jvm.MethodName)) ∈ BIG := big_mem 2121 (by decide +kernel) rfl
theorem w_a63c75bf : (Jvm.Cond.code ({ cls := "VerseCommittee$People", name := "companies", desc := "()I" } : Jvm.MethodName) prog_6_method_2_code (1 : Nat) (Option.some Jvm.ClassFile.FieldType.int)) ∈ BIG := big_mem 1540 (by decide +kernel) rfl
theorem w_a6677c0e : (Jvm.Cond.instanceMethod ({ cls := "VerseCommittee$Shelf", name := "fixedThen", desc := "(II)I" } : Jvm.MethodName)) ∈ BIG := big_mem 1214 (by decide +kernel) rfl
theorem w_a6c11485 : (Jvm.Cond.methodLink "VerseCommitteeLaw" (67 : Nat) ({ cls := "VerseCommitteeModel", name := "holds", desc := "(IIII)I" } : Jvm.MethodName)) ∈ BIG := big_mem 2131 (by decide +kernel) rfl
theorem w_a6ec61f1 : (Jvm.Cond.methodLink "VerseCommitteeLaw" (126 : Nat) ({ cls := "VerseCommitteeModel", name := "option", desc := "(II)Z" } : Jvm.MethodName)) ∈ BIG := big_mem 2274 (by decide +kernel) rfl
theorem w_a70164e4 : (Jvm.Cond.methodLink "VerseCommitteeModel" (406 : Nat) ({ cls := "VerseCommitteeModel", name := "worked", desc := "(III)I" } : Jvm.MethodName)) ∈ BIG := big_mem 2143 (by decide +kernel) rfl
theorem w_a74fe79d : (Jvm.Cond.code ({ cls := "VerseCommittee", name := "fixed", desc := "(I)I" } : Jvm.MethodName) prog_1_method_21_code (2 : Nat) (Option.some Jvm.ClassFile.FieldType.int)) ∈ BIG := big_mem 1203 (by decide +kernel) rfl
theorem w_a7615b14 : (Jvm.Cond.methodLink "VerseCommittee" (283 : Nat) ({ cls := "VerseCommittee$Shelf", name := "withdraw", desc := "(II)I" } : Jvm.MethodName)) ∈ BIG := big_mem 1183 (by decide +kernel) rfl
theorem w_a7852b45 : (Jvm.Cond.selects "VerseCommittee$People" ({ cls := "VerseCommittee$People", name := "hasScholar", desc := "(I)Z" } : Jvm.MethodName) ({ cls := "VerseCommittee$People", name := "hasScholar", desc := "(I)Z" } : Jvm.MethodName)) ∈ BIG := big_mem 1007 (by decide +kernel) rfl
theorem w_a79ac0d6 : (Jvm.Cond.methodLink "VerseCommittee$Parser" (3 : Nat) ({ cls := "java/lang/Object", name := "<init>", desc := "()V" } : Jvm.MethodName)) ∈ BIG := big_mem 324 (by decide +kernel) rfl
theorem w_a7db86ad : (Jvm.Cond.constant "VerseCommitteeModel" (322 : Nat) (99999 : Int32)) ∈ BIG := big_mem 2038 (by decide +kernel) rfl
theorem w_a7dcdfbc : (Jvm.Cond.static ({ cls := "VerseCommittee$Laws", name := "placeOf", desc := "(I)I" } : Jvm.MethodName)) ∈ BIG := big_mem 1261 (by decide +kernel) rfl
theorem w_a8406db3 : (Jvm.Cond.methodLink "VerseCommittee" (394 : Nat) ({ cls := "VerseCommittee$Choices", name := "size", desc := "()I" } : Jvm.MethodName)) ∈ BIG := big_mem 1606 (by decide +kernel) rfl
theorem w_a849a0df : (Jvm.Cond.instanceMethod ({ cls := "VerseCommittee$Rendering", name := "takeOut", desc := "(I)I" } : Jvm.MethodName)) ∈ BIG := big_mem 1188 (by decide +kernel) rfl
theorem w_a895f913 : (Jvm.Cond.fieldLink "VerseCommittee" (65 : Nat) "VerseCommittee" "reckoner" "LVerseCommittee$Reckoner;") ∈ BIG := big_mem 541 (by decide +kernel) rfl
theorem w_a8d8cbdf : (Jvm.Cond.instanceMethod ({ cls := "VerseCommitteeModel", name := "isGood", desc := "()Z" } : Jvm.MethodName)) ∈ BIG := big_mem 2001 (by decide +kernel) rfl
theorem w_a942fe80 : (Jvm.Cond.instanceMethod ({ cls := "VerseCommitteeModel", name := "mayBe", desc := "(I)Z" } : Jvm.MethodName)) ∈ BIG := big_mem 2307 (by decide +kernel) rfl
theorem w_a9704daa : (Jvm.Cond.selects "VerseCommittee$Rendering" ({ cls := "VerseCommittee$Rendering", name := "stateNumber", desc := "()I" } : Jvm.MethodName) ({ cls := "VerseCommittee$Rendering", name := "stateNumber", desc := "()I" } : Jvm.MethodName)) ∈ BIG := big_mem 1173 (by decide +kernel) rfl
theorem w_a9a1b0f9 : (Jvm.Cond.instanceMethod ({ cls := "VerseCommittee$Shelf", name := "size", desc := "()I" } : Jvm.MethodName)) ∈ BIG := big_mem 1603 (by decide +kernel) rfl
theorem w_a9a5fdd4 : (Jvm.Cond.instanceMethod ({ cls := "VerseCommittee$Rendering", name := "nextSlot", desc := "(II)I" } : Jvm.MethodName)) ∈ BIG := big_mem 1324 (by decide +kernel) rfl
theorem w_a9ad8867 : (Jvm.Cond.selects "VerseCommitteeModel" ({ cls := "VerseCommitteeModel", name := "piece", desc := "()V" } : Jvm.MethodName) ({ cls := "VerseCommitteeModel", name := "piece", desc := "()V" } : Jvm.MethodName)) ∈ BIG := big_mem 94 (by decide +kernel) rfl
theorem w_a9d42322 : (Jvm.Cond.code ({ cls := "VerseCommittee$Shelf", name := "isFull", desc := "()Z" } : Jvm.MethodName) prog_10_method_3_code (1 : Nat) (Option.some Jvm.ClassFile.FieldType.boolean)) ∈ BIG := big_mem 1016 (by decide +kernel) rfl
theorem w_a9d947a6 : (Jvm.Cond.instanceMethod ({ cls := "VerseCommittee", name := "look", desc := "(II)I" } : Jvm.MethodName)) ∈ BIG := big_mem 1572 (by decide +kernel) rfl
theorem w_aa1c3476 : (Jvm.Cond.fieldLink "VerseCommitteeModel" (75 : Nat) "VerseCommitteeModel" "third" "[I") ∈ BIG := big_mem 1654 (by decide +kernel) rfl
theorem w_aa40d33e : (Jvm.Cond.instanceMethod ({ cls := "VerseCommitteeModel", name := "lists", desc := "()V" } : Jvm.MethodName)) ∈ BIG := big_mem 2358 (by decide +kernel) rfl
theorem w_aa63960f : (Jvm.Cond.code ({ cls := "VerseCommittee$Parser", name := "sign", desc := "()I" } : Jvm.MethodName) prog_5_method_4_code (1 : Nat) (Option.some Jvm.ClassFile.FieldType.int)) ∈ BIG := big_mem 733 (by decide +kernel) rfl
theorem w_aa82996e : (Jvm.Cond.methodLink "VerseCommitteeLaw" (93 : Nat) ({ cls := "VerseCommitteeModel", name := "close", desc := "(I)I" } : Jvm.MethodName)) ∈ BIG := big_mem 2178 (by decide +kernel) rfl
theorem w_aafdd295 : (Jvm.Cond.static ({ cls := "VerseCommittee$Words", name := "isVowel", desc := "(I)Z" } : Jvm.MethodName)) ∈ BIG := big_mem 677 (by decide +kernel) rfl
theorem w_ab076474 : (Jvm.Cond.code ({ cls := "VerseCommitteeModel", name := "fixedAt", desc := "(II)I" } : Jvm.MethodName) prog_14_method_79_code (4 : Nat) (Option.some Jvm.ClassFile.FieldType.int)) ∈ BIG := big_mem 2217 (by decide +kernel) rfl
theorem w_ab2558a4 : (Jvm.Cond.instanceMethod ({ cls := "VerseCommittee$People", name := "rateOf", desc := "(I)I" } : Jvm.MethodName)) ∈ BIG := big_mem 1547 (by decide +kernel) rfl
theorem w_ab618568 : (Jvm.Cond.methodLink "VerseCommittee$Parser" (92 : Nat) ({ cls := "VerseCommittee$Parser", name := "readPart", desc := "(I)Z" } : Jvm.MethodName)) ∈ BIG := big_mem 773 (by decide +kernel) rfl
theorem w_ab83187e : (Jvm.Cond.selects "VerseCommitteeModel" ({ cls := "VerseCommitteeModel", name := "isSmall", desc := "(I)Z" } : Jvm.MethodName) ({ cls := "VerseCommitteeModel", name := "isSmall", desc := "(I)Z" } : Jvm.MethodName)) ∈ BIG := big_mem 76 (by decide +kernel) rfl
theorem w_abdbe5e1 : (Jvm.Cond.methodLink "VerseCommittee" (267 : Nat) ({ cls := "VerseCommittee$Rendering", name := "keepVote", desc := "(II)V" } : Jvm.MethodName)) ∈ BIG := big_mem 1149 (by decide +kernel) rfl
theorem w_abfc8ba4 : (Jvm.Cond.instanceMethod ({ cls := "VerseCommitteeModel", name := "copyOf", desc := "(II)I" } : Jvm.MethodName)) ∈ BIG := big_mem 2125 (by decide +kernel) rfl
theorem w_ac317d07 : (Jvm.Cond.methodLink "VerseCommittee" (286 : Nat) ({ cls := "VerseCommittee$Shelf", name := "fixedNumber", desc := "(I)I" } : Jvm.MethodName)) ∈ BIG := big_mem 1204 (by decide +kernel) rfl
theorem w_ac3d0eba : (Jvm.Cond.methodLink "VerseCommittee" (71 : Nat) ({ cls := "VerseCommittee$Findings", name := "<init>", desc := "(LVerseCommittee$Laws;LVerseCommittee$Verses;LVerseCommittee$Reckoner;LVerseCommittee$Shelf;)V" } : Jvm.MethodName)) ∈ BIG := big_mem 401 (by decide +kernel) rfl
theorem w_ac44617e : (Jvm.Cond.instanceMethod ({ cls := "VerseCommittee$Parser", name := "readTerm", desc := "(I)Z" } : Jvm.MethodName)) ∈ BIG := big_mem 791 (by decide +kernel) rfl
theorem w_ac45d541 : (Jvm.Cond.code ({ cls := "VerseCommittee$Choices", name := "size", desc := "()I" } : Jvm.MethodName) prog_2_method_2_code (1 : Nat) (Option.some Jvm.ClassFile.FieldType.int)) ∈ BIG := big_mem 1609 (by decide +kernel) rfl
theorem w_ac47613b : (Jvm.Cond.selects "VerseCommittee$Shelf" ({ cls := "VerseCommittee$Shelf", name := "withdraw", desc := "(II)I" } : Jvm.MethodName) ({ cls := "VerseCommittee$Shelf", name := "withdraw", desc := "(II)I" } : Jvm.MethodName)) ∈ BIG := big_mem 1185 (by decide +kernel) rfl
theorem w_ac50c1e2 : (Jvm.Cond.instanceMethod ({ cls := "VerseCommittee", name := "tapeHasSlots", desc := "(II)Z" } : Jvm.MethodName)) ∈ BIG := big_mem 1019 (by decide +kernel) rfl
theorem w_ac5a251d : (Jvm.Cond.methodLink "VerseCommitteeLaw" (17 : Nat) ({ cls := "VerseCommitteeModel", name := "now", desc := "(I)Z" } : Jvm.MethodName)) ∈ BIG := big_mem 1913 (by decide +kernel) rfl
theorem w_ac78f6d9 : (Jvm.Cond.selects "VerseCommittee" ({ cls := "VerseCommittee", name := "check", desc := "(I)I" } : Jvm.MethodName) ({ cls := "VerseCommittee", name := "check", desc := "(I)I" } : Jvm.MethodName)) ∈ BIG := big_mem 1565 (by decide +kernel) rfl
theorem w_acbcd420 : (Jvm.Cond.code ({ cls := "VerseCommittee$Shelf", name := "withdraw", desc := "(II)I" } : Jvm.MethodName) prog_10_method_13_code (7 : Nat) (Option.some Jvm.ClassFile.FieldType.int)) ∈ BIG := big_mem 1186 (by decide +kernel) rfl
theorem w_ad3fc6b6 : (Jvm.Cond.methodLink "VerseCommitteeModel" (430 : Nat) ({ cls := "VerseCommitteeModel", name := "isOfStage", desc := "(III)Z" } : Jvm.MethodName)) ∈ BIG := big_mem 2174 (by decide +kernel) rfl
theorem w_ad8960a4 : (Jvm.Cond.code ({ cls := "VerseCommitteeModel", name := "unlikes", desc := "(I)I" } : Jvm.MethodName) prog_14_method_93_code (9 : Nat) (Option.some Jvm.ClassFile.FieldType.int)) ∈ BIG := big_mem 2257 (by decide +kernel) rfl
theorem w_ad9f0f82 : (Jvm.Cond.code ({ cls := "VerseCommittee$Reckoner", name := "sign", desc := "()I" } : Jvm.MethodName) prog_8_method_12_code (1 : Nat) (Option.some Jvm.ClassFile.FieldType.int)) ∈ BIG := big_mem 936 (by decide +kernel) rfl
theorem w_ae25e00c : (Jvm.Cond.instanceMethod ({ cls := "VerseCommittee$Laws", name := "enact", desc := "([III)I" } : Jvm.MethodName)) ∈ BIG := big_mem 827 (by decide +kernel) rfl
theorem w_ae39aa3e : (Jvm.Cond.methodLink "VerseCommittee$Planner" (95 : Nat) ({ cls := "VerseCommittee$People", name := "companies", desc := "()I" } : Jvm.MethodName)) ∈ BIG := big_mem 1537 (by decide +kernel) rfl
theorem w_ae3fd15c : (Jvm.Cond.selects "VerseCommittee$People" ({ cls := "VerseCommittee$People", name := "setCentreRate", desc := "(I)V" } : Jvm.MethodName) ({ cls := "VerseCommittee$People", name := "setCentreRate", desc := "(I)V" } : Jvm.MethodName)) ∈ BIG := big_mem 699 (by decide +kernel) rfl
theorem w_ae690209 : (Jvm.Cond.methodLink "VerseCommittee" (392 : Nat) ({ cls := "VerseCommittee$Laws", name := "size", desc := "()I" } : Jvm.MethodName)) ∈ BIG := big_mem 1601 (by decide +kernel) rfl
theorem w_ae6f3103 : (Jvm.Cond.fieldLink "VerseCommittee$Parser" (29 : Nat) "VerseCommittee$Parser" "at" "I") ∈ BIG := big_mem 330 (by decide +kernel) rfl
theorem w_aeac43e5 : (Jvm.Cond.methodLink "VerseCommittee" (325 : Nat) ({ cls := "VerseCommittee$Choices", name := "priceOfRow", desc := "()I" } : Jvm.MethodName)) ∈ BIG := big_mem 1408 (by decide +kernel) rfl
theorem w_aebeca9f : (Jvm.Cond.methodLink "VerseCommitteeModel" (370 : Nat) ({ cls := "VerseCommitteeModel", name := "readsRank", desc := "(I)V" } : Jvm.MethodName)) ∈ BIG := big_mem 2031 (by decide +kernel) rfl
theorem w_aedb3b96 : (Jvm.Cond.fieldLink "VerseCommittee$Reckoner" (79 : Nat) "VerseCommittee$Reckoner" "tokens" "I") ∈ BIG := big_mem 364 (by decide +kernel) rfl
theorem w_aefa3b87 : (Jvm.Cond.instanceMethod ({ cls := "VerseCommittee", name := "distance", desc := "([I[I)I" } : Jvm.MethodName)) ∈ BIG := big_mem 998 (by decide +kernel) rfl
theorem w_af0ebfbb : (Jvm.Cond.code ({ cls := "VerseCommittee$Words", name := "formIn", desc := "(II)I" } : Jvm.MethodName) prog_12_method_10_code (4 : Nat) (Option.some Jvm.ClassFile.FieldType.int)) ∈ BIG := big_mem 1496 (by decide +kernel) rfl
theorem w_af1b6fe4 : (Jvm.Cond.instanceMethod ({ cls := "VerseCommitteeModel", name := "puts", desc := "(I)V" } : Jvm.MethodName)) ∈ BIG := big_mem 2049 (by decide +kernel) rfl
theorem w_af6158c2 : (Jvm.Cond.code ({ cls := "VerseCommitteeModel", name := "quarrelsOf", desc := "(II)I" } : Jvm.MethodName) prog_14_method_87_code (9 : Nat) (Option.some Jvm.ClassFile.FieldType.int)) ∈ BIG := big_mem 2245 (by decide +kernel) rfl
theorem w_af762e43 : (Jvm.Cond.instanceMethod ({ cls := "VerseCommitteeModel", name := "source", desc := "(III)Z" } : Jvm.MethodName)) ∈ BIG := big_mem 1933 (by decide +kernel) rfl
theorem w_afa4c6de : (Jvm.Cond.fieldLink "VerseCommittee$Shelf" (13 : Nat) "VerseCommittee$Shelf" "rows" "[LVerseCommittee$Rendering;") ∈ BIG := big_mem 297 (by decide +kernel) rfl
theorem w_afbfab68 : (Jvm.Cond.methodLink "VerseCommittee$Findings" (123 : Nat) ({ cls := "VerseCommittee$Laws", name := "isOf", desc := "(II)Z" } : Jvm.MethodName)) ∈ BIG := big_mem 1239 (by decide +kernel) rfl
theorem w_b047e690 : (Jvm.Cond.instanceMethod ({ cls := "VerseCommitteeModel", name := "token", desc := "(III)I" } : Jvm.MethodName)) ∈ BIG := big_mem 1941 (by decide +kernel) rfl
theorem w_b054f62f : (Jvm.Cond.methodLink "VerseCommitteeLaw" (161 : Nat) ({ cls := "VerseCommittee", name := "plan", desc := "(I)I" } : Jvm.MethodName)) ∈ BIG := big_mem 1506 (by decide +kernel) rfl
theorem w_b08b87df : (Jvm.Cond.code ({ cls := "VerseCommitteeModel", name := "isOff", desc := "(I)Z" } : Jvm.MethodName) prog_14_method_107_code (5 : Nat) (Option.some Jvm.ClassFile.FieldType.boolean)) ∈ BIG := big_mem 2328 (by decide +kernel) rfl
theorem w_b08ccbe3 : (Jvm.Cond.selects "VerseCommittee$People" ({ cls := "VerseCommittee$People", name := "isVoid", desc := "(I)Z" } : Jvm.MethodName) ({ cls := "VerseCommittee$People", name := "isVoid", desc := "(I)Z" } : Jvm.MethodName)) ∈ BIG := big_mem 1011 (by decide +kernel) rfl
theorem w_b0c8247c : (Jvm.Cond.selects "VerseCommittee$Shelf" ({ cls := "VerseCommittee$Shelf", name := "mayBeFixed", desc := "(III)Z" } : Jvm.MethodName) ({ cls := "VerseCommittee$Shelf", name := "mayBeFixed", desc := "(III)Z" } : Jvm.MethodName)) ∈ BIG := big_mem 1134 (by decide +kernel) rfl
theorem w_b0d8e50b : (Jvm.Cond.methodLink "VerseCommitteeLaw" (157 : Nat) ({ cls := "VerseCommittee", name := "printed", desc := "(III)I" } : Jvm.MethodName)) ∈ BIG := big_mem 1484 (by decide +kernel) rfl
theorem w_b0dd50ca : (Jvm.Cond.instanceMethod ({ cls := "VerseCommittee", name := "votersOf", desc := "(LVerseCommittee$Rendering;)I" } : Jvm.MethodName)) ∈ BIG := big_mem 1094 (by decide +kernel) rfl
theorem w_b0e28e52 : (Jvm.Cond.selects "VerseCommittee" ({ cls := "VerseCommittee", name := "line", desc := "(I)I" } : Jvm.MethodName) ({ cls := "VerseCommittee", name := "line", desc := "(I)I" } : Jvm.MethodName)) ∈ BIG := big_mem 1443 (by decide +kernel) rfl
theorem w_b0f52924 : (Jvm.Cond.selects "VerseCommittee$Laws" ({ cls := "VerseCommittee$Laws", name := "binds", desc := "(III)Z" } : Jvm.MethodName) ({ cls := "VerseCommittee$Laws", name := "binds", desc := "(III)Z" } : Jvm.MethodName)) ∈ BIG := big_mem 868 (by decide +kernel) rfl
theorem w_b1155243 : (Jvm.Cond.fieldLink "VerseCommitteeModel" (32 : Nat) "VerseCommitteeModel" "books" "[I") ∈ BIG := big_mem 1640 (by decide +kernel) rfl
theorem w_b142da74 : (Jvm.Cond.code ({ cls := "VerseCommittee$Verses", name := "measureOf", desc := "(I)I" } : Jvm.MethodName) prog_11_method_6_code (2 : Nat) (Option.some Jvm.ClassFile.FieldType.int)) ∈ BIG := big_mem 853 (by decide +kernel) rfl
theorem w_b14377b9 : (Jvm.Cond.methodLink "VerseCommittee$Findings" (137 : Nat) ({ cls := "VerseCommittee$Shelf", name := "fixedAt", desc := "(I)LVerseCommittee$Rendering;" } : Jvm.MethodName)) ∈ BIG := big_mem 1301 (by decide +kernel) rfl
theorem w_b16771e9 : (Jvm.Cond.fieldLink "VerseCommitteeModel" (108 : Nat) "VerseCommitteeModel" "rScholar" "[I") ∈ BIG := big_mem 1674 (by decide +kernel) rfl
theorem w_b188555f : (Jvm.Cond.instanceMethod ({ cls := "VerseCommitteeModel", name := "syllablesOf", desc := "(I)I" } : Jvm.MethodName)) ∈ BIG := big_mem 1974 (by decide +kernel) rfl
theorem w_b1c9f32d : (Jvm.Cond.instanceMethod ({ cls := "VerseCommittee", name := "plan", desc := "(I)I" } : Jvm.MethodName)) ∈ BIG := big_mem 1507 (by decide +kernel) rfl
theorem w_b1d7e7a5 : (Jvm.Cond.fieldLink "VerseCommittee$Findings" (45 : Nat) "VerseCommittee$Findings" "shelf" "LVerseCommittee$Shelf;") ∈ BIG := big_mem 408 (by decide +kernel) rfl
theorem w_b1dab8f7 : (Jvm.Cond.code ({ cls := "VerseCommittee$Parser", name := "readPiece", desc := "(I)Z" } : Jvm.MethodName) prog_5_method_17_code (3 : Nat) (Option.some Jvm.ClassFile.FieldType.boolean)) ∈ BIG := big_mem 780 (by decide +kernel) rfl
theorem w_b2188751 : (Jvm.Cond.instanceMethod ({ cls := "VerseCommittee$Reckoner", name := "reckonTerm", desc := "(ZI)I" } : Jvm.MethodName)) ∈ BIG := big_mem 943 (by decide +kernel) rfl
theorem w_b23bf444 : (Jvm.Cond.code ({ cls := "VerseCommittee$Parser", name := "read", desc := "([II)I" } : Jvm.MethodName) prog_5_method_3_code (5 : Nat) (Option.some Jvm.ClassFile.FieldType.int)) ∈ BIG := big_mem 725 (by decide +kernel) rfl
theorem w_b25159d5 : (Jvm.Cond.fieldLink "VerseCommitteeModel" (81 : Nat) "VerseCommitteeModel" "codeTo" "[I") ∈ BIG := big_mem 1656 (by decide +kernel) rfl
theorem w_b284a658 : (Jvm.Cond.code ({ cls := "VerseCommittee$Laws", name := "putClause", desc := "(III)V" } : Jvm.MethodName) prog_4_method_9_code (5 : Nat) (Option.none : Option Jvm.ClassFile.FieldType)) ∈ BIG := big_mem 741 (by decide +kernel) rfl
theorem w_b284aa51 : (Jvm.Cond.code ({ cls := "VerseCommitteeModel", name := "changes", desc := "(III)I" } : Jvm.MethodName) prog_14_method_112_code (7 : Nat) (Option.some Jvm.ClassFile.FieldType.int)) ∈ BIG := big_mem 2343 (by decide +kernel) rfl
theorem w_b2bea0b7 : (Jvm.Cond.methodLink "VerseCommitteeModel" (418 : Nat) ({ cls := "VerseCommitteeModel", name := "fewest", desc := "(II)I" } : Jvm.MethodName)) ∈ BIG := big_mem 2154 (by decide +kernel) rfl
theorem w_b2d8f8df : (Jvm.Cond.code ({ cls := "VerseCommittee$Choices", name := "barByClauses", desc := "(I[II)V" } : Jvm.MethodName) prog_2_method_18_code (8 : Nat) (Option.none : Option Jvm.ClassFile.FieldType)) ∈ BIG := big_mem 1393 (by decide +kernel) rfl
theorem w_b2e72b5d : (Jvm.Cond.selects "VerseCommittee$Words" ({ cls := "VerseCommittee$Words", name := "letterIn", desc := "(III)I" } : Jvm.MethodName) ({ cls := "VerseCommittee$Words", name := "letterIn", desc := "(III)I" } : Jvm.MethodName)) ∈ BIG := big_mem 1503 (by decide +kernel) rfl
theorem w_b2ecec31 : (Jvm.Cond.selects "VerseCommitteeModel" ({ cls := "VerseCommitteeModel", name := "goesOn", desc := "()Z" } : Jvm.MethodName) ({ cls := "VerseCommitteeModel", name := "goesOn", desc := "()Z" } : Jvm.MethodName)) ∈ BIG := big_mem 97 (by decide +kernel) rfl
theorem w_b2f94f4e : (Jvm.Cond.fieldLink "VerseCommitteeModel" (284 : Nat) "VerseCommitteeModel" "codes" "I") ∈ BIG := big_mem 1663 (by decide +kernel) rfl
theorem w_b3320d15 : (Jvm.Cond.fieldLink "VerseCommittee$Reckoner" (57 : Nat) "VerseCommittee$Reckoner" "company" "I") ∈ BIG := big_mem 361 (by decide +kernel) rfl
theorem w_b34a3acb : (Jvm.Cond.fieldLink "VerseCommittee" (13 : Nat) "VerseCommittee" "scratch" "[I") ∈ BIG := big_mem 534 (by decide +kernel) rfl
theorem w_b3519fee : (Jvm.Cond.instanceMethod ({ cls := "VerseCommittee$Words", name := "isThere", desc := "([II)Z" } : Jvm.MethodName)) ∈ BIG := big_mem 638 (by decide +kernel) rfl
theorem w_b3cb3493 : (Jvm.Cond.fieldLink "VerseCommittee$Choices" (21 : Nat) "VerseCommittee$Choices" "parted" "[J") ∈ BIG := big_mem 459 (by decide +kernel) rfl
theorem w_b3ddb52f : (Jvm.Cond.code ({ cls := "VerseCommitteeModel", name := "does", desc := "(II)V" } : Jvm.MethodName) prog_14_method_61_code (4 : Nat) (Option.none : Option Jvm.ClassFile.FieldType)) ∈ BIG := big_mem 2142 (by decide +kernel) rfl
theorem w_b3e7e27b : (Jvm.Cond.instanceMethod ({ cls := "VerseCommittee$Rendering", name := "wordRow", desc := "()[I" } : Jvm.MethodName)) ∈ BIG := big_mem 1481 (by decide +kernel) rfl
theorem w_b403c285 : (Jvm.Cond.selects "VerseCommittee$Choices" ({ cls := "VerseCommittee$Choices", name := "choose", desc := "(II)V" } : Jvm.MethodName) ({ cls := "VerseCommittee$Choices", name := "choose", desc := "(II)V" } : Jvm.MethodName)) ∈ BIG := big_mem 59 (by decide +kernel) rfl
theorem w_b40da641 : (Jvm.Cond.code ({ cls := "VerseCommittee$Shelf", name := "fixedNumber", desc := "(I)I" } : Jvm.MethodName) prog_10_method_6_code (2 : Nat) (Option.some Jvm.ClassFile.FieldType.int)) ∈ BIG := big_mem 1143 (by decide +kernel) rfl
theorem w_b4350182 : (Jvm.Cond.methodLink "VerseCommittee$Shelf" (53 : Nat) ({ cls := "VerseCommittee$Shelf", name := "fixedAt", desc := "(I)LVerseCommittee$Rendering;" } : Jvm.MethodName)) ∈ BIG := big_mem 1136 (by decide +kernel) rfl
theorem w_b43cba97 : (Jvm.Cond.selects "VerseCommitteeModel" ({ cls := "VerseCommitteeModel", name := "leftOf", desc := "(I)I" } : Jvm.MethodName) ({ cls := "VerseCommitteeModel", name := "leftOf", desc := "(I)I" } : Jvm.MethodName)) ∈ BIG := big_mem 147 (by decide +kernel) rfl
theorem w_b446383c : (Jvm.Cond.methodLink "VerseCommitteeLaw" (135 : Nat) ({ cls := "VerseCommittee", name := "one", desc := "()I" } : Jvm.MethodName)) ∈ BIG := big_mem 1420 (by decide +kernel) rfl
theorem w_b4581049 : (Jvm.Cond.selects "VerseCommittee" ({ cls := "VerseCommittee", name := "close", desc := "(I)I" } : Jvm.MethodName) ({ cls := "VerseCommittee", name := "close", desc := "(I)I" } : Jvm.MethodName)) ∈ BIG := big_mem 1117 (by decide +kernel) rfl
theorem w_b4950596 : (Jvm.Cond.fieldLink "VerseCommittee$Rendering" (34 : Nat) "VerseCommittee$Rendering" "keptYes" "[I") ∈ BIG := big_mem 1039 (by decide +kernel) rfl
theorem w_b4b12ebe : (Jvm.Cond.methodLink "VerseCommittee" (289 : Nat) ({ cls := "VerseCommittee", name := "isPastDay", desc := "(I)Z" } : Jvm.MethodName)) ∈ BIG := big_mem 1209 (by decide +kernel) rfl
theorem w_b4c13842 : (Jvm.Cond.fieldLink "VerseCommittee" (19 : Nat) "VerseCommittee" "words" "LVerseCommittee$Words;") ∈ BIG := big_mem 535 (by decide +kernel) rfl
theorem w_b4f571f0 : (Jvm.Cond.instanceMethod ({ cls := "VerseCommittee", name := "vote", desc := "(IIZ)Z" } : Jvm.MethodName)) ∈ BIG := big_mem 1081 (by decide +kernel) rfl
theorem w_b4f60e10 : (Jvm.Cond.selects "VerseCommittee$Reckoner" ({ cls := "VerseCommittee$Reckoner", name := "isInForce", desc := "(I)Z" } : Jvm.MethodName) ({ cls := "VerseCommittee$Reckoner", name := "isInForce", desc := "(I)Z" } : Jvm.MethodName)) ∈ BIG := big_mem 880 (by decide +kernel) rfl
theorem w_b57f3818 : (Jvm.Cond.selects "VerseCommitteeModel" ({ cls := "VerseCommitteeModel", name := "here", desc := "()I" } : Jvm.MethodName) ({ cls := "VerseCommitteeModel", name := "here", desc := "()I" } : Jvm.MethodName)) ∈ BIG := big_mem 84 (by decide +kernel) rfl
theorem w_b5ff089f : (Jvm.Cond.code ({ cls := "VerseCommitteeModel", name := "up", desc := "(II)I" } : Jvm.MethodName) prog_14_method_116_code (2 : Nat) (Option.some Jvm.ClassFile.FieldType.int)) ∈ BIG := big_mem 2374 (by decide +kernel) rfl
theorem w_b608a55f : (Jvm.Cond.fieldLink "VerseCommitteeModel" (204 : Nat) "VerseCommitteeModel" "openMany" "[I") ∈ BIG := big_mem 1718 (by decide +kernel) rfl
theorem w_b6120675 : (Jvm.Cond.instanceMethod ({ cls := "VerseCommitteeModel", name := "neededAt", desc := "(III)I" } : Jvm.MethodName)) ∈ BIG := big_mem 2105 (by decide +kernel) rfl
theorem w_b644a665 : (Jvm.Cond.code ({ cls := "VerseCommitteeModel", name := "plan", desc := "(I)I" } : Jvm.MethodName) prog_14_method_120_code (3 : Nat) (Option.some Jvm.ClassFile.FieldType.int)) ∈ BIG := big_mem 2355 (by decide +kernel) rfl
theorem w_b646b6b2 : (Jvm.Cond.code ({ cls := "VerseCommittee$Laws", name := "<init>", desc := "()V" } : Jvm.MethodName) prog_4_method_1_code (1 : Nat) (Option.none : Option Jvm.ClassFile.FieldType)) ∈ BIG := big_mem 252 (by decide +kernel) rfl
theorem w_b64d06ce : (Jvm.Cond.methodLink "VerseCommittee$Reckoner" (95 : Nat) ({ cls := "VerseCommittee$Laws", name := "textOf", desc := "(I)[I" } : Jvm.MethodName)) ∈ BIG := big_mem 916 (by decide +kernel) rfl
theorem w_b6838580 : (Jvm.Cond.code ({ cls := "VerseCommitteeModel", name := "isOpen", desc := "(I)Z" } : Jvm.MethodName) prog_14_method_69_code (2 : Nat) (Option.some Jvm.ClassFile.FieldType.boolean)) ∈ BIG := big_mem 2169 (by decide +kernel) rfl
theorem w_b69f9169 : (Jvm.Cond.code ({ cls := "VerseCommitteeModel", name := "has", desc := "(II)Z" } : Jvm.MethodName) prog_14_method_3_code (2 : Nat) (Option.some Jvm.ClassFile.FieldType.boolean)) ∈ BIG := big_mem 2037 (by decide +kernel) rfl
theorem w_b6a93ec1 : (Jvm.Cond.selects "VerseCommitteeModel" ({ cls := "VerseCommitteeModel", name := "close", desc := "(I)I" } : Jvm.MethodName) ({ cls := "VerseCommitteeModel", name := "close", desc := "(I)I" } : Jvm.MethodName)) ∈ BIG := big_mem 2180 (by decide +kernel) rfl
theorem w_b6d76af7 : (Jvm.Cond.selects "VerseCommittee$Verses" ({ cls := "VerseCommittee$Verses", name := "has", desc := "(I)Z" } : Jvm.MethodName) ({ cls := "VerseCommittee$Verses", name := "has", desc := "(I)Z" } : Jvm.MethodName)) ∈ BIG := big_mem 605 (by decide +kernel) rfl
theorem w_b6edabee : (Jvm.Cond.code ({ cls := "VerseCommittee", name := "fixedOn", desc := "(II)I" } : Jvm.MethodName) prog_1_method_22_code (3 : Nat) (Option.some Jvm.ClassFile.FieldType.int)) ∈ BIG := big_mem 1208 (by decide +kernel) rfl
theorem w_b7011d98 : (Jvm.Cond.fieldLink "VerseCommitteeModel" (548 : Nat) "VerseCommitteeModel" "openVerses" "I") ∈ BIG := big_mem 1716 (by decide +kernel) rfl
theorem w_b72016d3 : (Jvm.Cond.fieldLink "VerseCommitteeModel" (171 : Nat) "VerseCommitteeModel" "twos" "[I") ∈ BIG := big_mem 1703 (by decide +kernel) rfl
theorem w_b73689e8 : (Jvm.Cond.selects "VerseCommittee$Words" ({ cls := "VerseCommittee$Words", name := "isThere", desc := "([II)Z" } : Jvm.MethodName) ({ cls := "VerseCommittee$Words", name := "isThere", desc := "([II)Z" } : Jvm.MethodName)) ∈ BIG := big_mem 4 (by decide +kernel) rfl
theorem w_b73cdfec : (Jvm.Cond.instanceMethod ({ cls := "VerseCommittee$People", name := "scholars", desc := "()I" } : Jvm.MethodName)) ∈ BIG := big_mem 1598 (by decide +kernel) rfl
theorem w_b7412ead : (Jvm.Cond.instanceMethod ({ cls := "VerseCommitteeModel", name := "fixedOf", desc := "(I)I" } : Jvm.MethodName)) ∈ BIG := big_mem 2184 (by decide +kernel) rfl
theorem w_b77ca5ae : (Jvm.Cond.methodLink "VerseCommittee$Choices" (143 : Nat) ({ cls := "VerseCommittee$Laws", name := "isOf", desc := "(II)Z" } : Jvm.MethodName)) ∈ BIG := big_mem 1399 (by decide +kernel) rfl
theorem w_b77ee6c4 : (Jvm.Cond.code ({ cls := "VerseCommitteeModel", name := "daysOf", desc := "(II)I" } : Jvm.MethodName) prog_14_method_57_code (4 : Nat) (Option.some Jvm.ClassFile.FieldType.int)) ∈ BIG := big_mem 2122 (by decide +kernel) rfl
theorem w_b781ef6e : (Jvm.Cond.instanceMethod ({ cls := "VerseCommittee$Shelf", name := "enter", desc := "(LVerseCommittee$Rendering;)I" } : Jvm.MethodName)) ∈ BIG := big_mem 1076 (by decide +kernel) rfl
theorem w_b7b49949 : (Jvm.Cond.methodLink "VerseCommitteeModel" (355 : Nat) ({ cls := "VerseCommitteeModel", name := "piece", desc := "()V" } : Jvm.MethodName)) ∈ BIG := big_mem 2051 (by decide +kernel) rfl
theorem w_b7c67461 : (Jvm.Cond.instanceMethod ({ cls := "VerseCommittee$People", name := "companies", desc := "()I" } : Jvm.MethodName)) ∈ BIG := big_mem 1538 (by decide +kernel) rfl
theorem w_b7e1fe03 : (Jvm.Cond.code ({ cls := "VerseCommitteeModel", name := "daysBy", desc := "(I)I" } : Jvm.MethodName) prog_14_method_117_code (5 : Nat) (Option.some Jvm.ClassFile.FieldType.int)) ∈ BIG := big_mem 2371 (by decide +kernel) rfl
theorem w_b819b50e : (Jvm.Cond.selects "VerseCommittee$Choices" ({ cls := "VerseCommittee$Choices", name := "isOption", desc := "(II)Z" } : Jvm.MethodName) ({ cls := "VerseCommittee$Choices", name := "isOption", desc := "(II)Z" } : Jvm.MethodName)) ∈ BIG := big_mem 52 (by decide +kernel) rfl
theorem w_b858f60b : (Jvm.Cond.fieldLink "VerseCommittee" (102 : Nat) "VerseCommittee" "taped" "I") ∈ BIG := big_mem 545 (by decide +kernel) rfl
theorem w_b85a879d : (Jvm.Cond.methodLink "VerseCommittee$Parser" (98 : Nat) ({ cls := "VerseCommittee$Parser", name := "readOpening", desc := "(I)Z" } : Jvm.MethodName)) ∈ BIG := big_mem 781 (by decide +kernel) rfl
theorem w_b85d3664 : (Jvm.Cond.fieldLink "VerseCommitteeModel" (195 : Nat) "VerseCommitteeModel" "right" "[I") ∈ BIG := big_mem 1712 (by decide +kernel) rfl
theorem w_b877a440 : (Jvm.Cond.instanceMethod ({ cls := "VerseCommitteeModel", name := "worth", desc := "(III)I" } : Jvm.MethodName)) ∈ BIG := big_mem 2137 (by decide +kernel) rfl
theorem w_b885d245 : (Jvm.Cond.methodLink "VerseCommittee$Reckoner" (3 : Nat) ({ cls := "java/lang/Object", name := "<init>", desc := "()V" } : Jvm.MethodName)) ∈ BIG := big_mem 354 (by decide +kernel) rfl
theorem w_b88f939e : (Jvm.Cond.methodLink "VerseCommittee" (247 : Nat) ({ cls := "VerseCommittee", name := "votersOf", desc := "(LVerseCommittee$Rendering;)I" } : Jvm.MethodName)) ∈ BIG := big_mem 1092 (by decide +kernel) rfl
theorem w_b8a6c869 : (Jvm.Cond.instanceMethod ({ cls := "VerseCommittee$Rendering", name := "daysSinceFixed", desc := "(I)I" } : Jvm.MethodName)) ∈ BIG := big_mem 1146 (by decide +kernel) rfl
theorem w_b8ec0b93 : (Jvm.Cond.fieldLink "VerseCommittee$Choices" (11 : Nat) "VerseCommittee$Choices" "signs" "[I") ∈ BIG := big_mem 456 (by decide +kernel) rfl
theorem w_b8fe85cf : (Jvm.Cond.code ({ cls := "VerseCommitteeModel", name := "goesWithout", desc := "(II)Z" } : Jvm.MethodName) prog_14_method_74_code (3 : Nat) (Option.some Jvm.ClassFile.FieldType.boolean)) ∈ BIG := big_mem 2201 (by decide +kernel) rfl
theorem w_b915d8da : (Jvm.Cond.code ({ cls := "VerseCommittee$Laws", name := "putDays", desc := "(III)V" } : Jvm.MethodName) prog_4_method_11_code (4 : Nat) (Option.none : Option Jvm.ClassFile.FieldType)) ∈ BIG := big_mem 821 (by decide +kernel) rfl
theorem w_b9c870b7 : (Jvm.Cond.code ({ cls := "VerseCommittee$Rendering", name := "stage", desc := "()I" } : Jvm.MethodName) prog_9_method_12_code (1 : Nat) (Option.some Jvm.ClassFile.FieldType.int)) ∈ BIG := big_mem 1104 (by decide +kernel) rfl
theorem w_b9cdbe57 : (Jvm.Cond.instanceMethod ({ cls := "VerseCommittee$People", name := "makeVoid", desc := "(I)V" } : Jvm.MethodName)) ∈ BIG := big_mem 1180 (by decide +kernel) rfl
theorem w_b9f29ad7 : (Jvm.Cond.selects "VerseCommittee$Findings" ({ cls := "VerseCommittee$Findings", name := "seekQuarrel", desc := "(III)Z" } : Jvm.MethodName) ({ cls := "VerseCommittee$Findings", name := "seekQuarrel", desc := "(III)Z" } : Jvm.MethodName)) ∈ BIG := big_mem 1281 (by decide +kernel) rfl
theorem w_ba0185fc : (Jvm.Cond.selects "VerseCommittee$Rendering" ({ cls := "VerseCommittee$Rendering", name := "wordAt", desc := "(I)I" } : Jvm.MethodName) ({ cls := "VerseCommittee$Rendering", name := "wordAt", desc := "(I)I" } : Jvm.MethodName)) ∈ BIG := big_mem 1332 (by decide +kernel) rfl
theorem w_ba397e53 : (Jvm.Cond.methodLink "VerseCommittee$Planner" (53 : Nat) ({ cls := "VerseCommittee$Planner", name := "give", desc := "(II)V" } : Jvm.MethodName)) ∈ BIG := big_mem 1533 (by decide +kernel) rfl
theorem w_ba550012 : (Jvm.Cond.selects "VerseCommitteeModel" ({ cls := "VerseCommitteeModel", name := "does", desc := "(II)V" } : Jvm.MethodName) ({ cls := "VerseCommitteeModel", name := "does", desc := "(II)V" } : Jvm.MethodName)) ∈ BIG := big_mem 111 (by decide +kernel) rfl
theorem w_ba692955 : (Jvm.Cond.methodLink "VerseCommittee" (126 : Nat) ({ cls := "VerseCommittee$Verses", name := "putRow", desc := "(II[II)V" } : Jvm.MethodName)) ∈ BIG := big_mem 618 (by decide +kernel) rfl
theorem w_ba6a2b6c : (Jvm.Cond.methodLink "VerseCommittee$Verses" (33 : Nat) ({ cls := "VerseCommittee$Verses", name := "has", desc := "(I)Z" } : Jvm.MethodName)) ∈ BIG := big_mem 622 (by decide +kernel) rfl
theorem w_ba716fe7 : (Jvm.Cond.static ({ cls := "VerseCommitteeModel", name := "lies", desc := "(III)Z" } : Jvm.MethodName)) ∈ BIG := big_mem 1918 (by decide +kernel) rfl
theorem w_ba783915 : (Jvm.Cond.selects "VerseCommittee$Verses" ({ cls := "VerseCommittee$Verses", name := "recordReader", desc := "(IIIZ)V" } : Jvm.MethodName) ({ cls := "VerseCommittee$Verses", name := "recordReader", desc := "(IIIZ)V" } : Jvm.MethodName)) ∈ BIG := big_mem 1460 (by decide +kernel) rfl
theorem w_ba95bb5d : (Jvm.Cond.selects "VerseCommittee$Reckoner" ({ cls := "VerseCommittee$Reckoner", name := "sourceSize", desc := "()I" } : Jvm.MethodName) ({ cls := "VerseCommittee$Reckoner", name := "sourceSize", desc := "()I" } : Jvm.MethodName)) ∈ BIG := big_mem 981 (by decide +kernel) rfl
theorem w_ba98b7b1 : (Jvm.Cond.instanceMethod ({ cls := "VerseCommittee", name := "fixed", desc := "(I)I" } : Jvm.MethodName)) ∈ BIG := big_mem 1201 (by decide +kernel) rfl
theorem w_bac73fba : (Jvm.Cond.instanceMethod ({ cls := "VerseCommitteeModel", name := "goesWithout", desc := "(II)Z" } : Jvm.MethodName)) ∈ BIG := big_mem 2200 (by decide +kernel) rfl
theorem w_bac92bb2 : (Jvm.Cond.code ({ cls := "VerseCommittee$Choices", name := "priceOfRow", desc := "()I" } : Jvm.MethodName) prog_2_method_5_code (3 : Nat) (Option.some Jvm.ClassFile.FieldType.int)) ∈ BIG := big_mem 1411 (by decide +kernel) rfl
theorem w_bb3c59cb : (Jvm.Cond.methodLink "VerseCommitteeModel" (530 : Nat) ({ cls := "VerseCommitteeModel", name := "isAhead", desc := "(IIII)Z" } : Jvm.MethodName)) ∈ BIG := big_mem 2317 (by decide +kernel) rfl
theorem w_bb654b39 : (Jvm.Cond.fieldLink "VerseCommittee$Choices" (43 : Nat) "VerseCommittee$Choices" "reckoner" "LVerseCommittee$Reckoner;") ∈ BIG := big_mem 454 (by decide +kernel) rfl
theorem w_bbaa6864 : (Jvm.Cond.methodLink "VerseCommittee" (363 : Nat) ({ cls := "VerseCommittee$Words", name := "sizeIn", desc := "(II)I" } : Jvm.MethodName)) ∈ BIG := big_mem 1489 (by decide +kernel) rfl
theorem w_bbbc7c29 : (Jvm.Cond.fieldLink "VerseCommittee$Rendering" (52 : Nat) "VerseCommittee$Rendering" "tokens" "[I") ∈ BIG := big_mem 1031 (by decide +kernel) rfl
theorem w_bbc5a53a : (Jvm.Cond.code ({ cls := "VerseCommittee$People", name := "enterCompany", desc := "(II)I" } : Jvm.MethodName) prog_6_method_6_code (3 : Nat) (Option.some Jvm.ClassFile.FieldType.int)) ∈ BIG := big_mem 692 (by decide +kernel) rfl
theorem w_bbea2c1d : (Jvm.Cond.selects "VerseCommitteeModel" ({ cls := "VerseCommitteeModel", name := "one", desc := "()I" } : Jvm.MethodName) ({ cls := "VerseCommitteeModel", name := "one", desc := "()I" } : Jvm.MethodName)) ∈ BIG := big_mem 2315 (by decide +kernel) rfl
theorem w_bc1ce9dc : (Jvm.Cond.code ({ cls := "VerseCommittee$Parser", name := "readHundredths", desc := "(I)Z" } : Jvm.MethodName) prog_5_method_12_code (4 : Nat) (Option.some Jvm.ClassFile.FieldType.boolean)) ∈ BIG := big_mem 813 (by decide +kernel) rfl
theorem w_bc38324e : (Jvm.Cond.methodLink "VerseCommittee" (373 : Nat) ({ cls := "VerseCommittee$Planner", name := "answer", desc := "(I)I" } : Jvm.MethodName)) ∈ BIG := big_mem 1510 (by decide +kernel) rfl
theorem w_bc6e39b3 : (Jvm.Cond.methodLink "VerseCommitteeModel" (307 : Nat) ({ cls := "VerseCommitteeModel", name := "top", desc := "()I" } : Jvm.MethodName)) ∈ BIG := big_mem 2080 (by decide +kernel) rfl
theorem w_bc75a666 : (Jvm.Cond.methodLink "VerseCommitteeLaw" (64 : Nat) ({ cls := "VerseCommittee", name := "holds", desc := "(IIII)I" } : Jvm.MethodName)) ∈ BIG := big_mem 830 (by decide +kernel) rfl
theorem w_bca25014 : (Jvm.Cond.methodLink "VerseCommitteeLaw" (32 : Nat) ({ cls := "VerseCommitteeModel", name := "source", desc := "(III)Z" } : Jvm.MethodName)) ∈ BIG := big_mem 1932 (by decide +kernel) rfl
theorem w_bcb549bb : (Jvm.Cond.methodLink "VerseCommittee$Parser" (59 : Nat) ({ cls := "VerseCommittee$Laws", name := "putMeaning", desc := "(IIII)V" } : Jvm.MethodName)) ∈ BIG := big_mem 746 (by decide +kernel) rfl
theorem w_bd0bf2b7 : (Jvm.Cond.methodLink "VerseCommittee" (274 : Nat) ({ cls := "VerseCommittee$Rendering", name := "enterState", desc := "(I)V" } : Jvm.MethodName)) ∈ BIG := big_mem 1170 (by decide +kernel) rfl
theorem w_bd4fc458 : (Jvm.Cond.initialized "VerseCommittee$Reckoner") ∈ BIG := big_mem 156 (by decide +kernel) rfl
theorem w_bd96f7f2 : (Jvm.Cond.fieldLink "VerseCommitteeModel" (174 : Nat) "VerseCommitteeModel" "sign" "[I") ∈ BIG := big_mem 1705 (by decide +kernel) rfl
theorem w_bda81c80 : (Jvm.Cond.code ({ cls := "VerseCommittee", name := "distance", desc := "([I[I)I" } : Jvm.MethodName) prog_1_method_57_code (8 : Nat) (Option.some Jvm.ClassFile.FieldType.int)) ∈ BIG := big_mem 999 (by decide +kernel) rfl
theorem w_bdb836f1 : (Jvm.Cond.fieldLink "VerseCommittee$Parser" (18 : Nat) "VerseCommittee$Parser" "laws" "LVerseCommittee$Laws;") ∈ BIG := big_mem 327 (by decide +kernel) rfl
theorem w_bdcbe005 : (Jvm.Cond.code ({ cls := "VerseCommittee$Rendering", name := "putVote", desc := "(IZ)V" } : Jvm.MethodName) prog_9_method_13_code (4 : Nat) (Option.none : Option Jvm.ClassFile.FieldType)) ∈ BIG := big_mem 1113 (by decide +kernel) rfl
theorem w_be0371b1 : (Jvm.Cond.selects "VerseCommittee$Planner" ({ cls := "VerseCommittee$Planner", name := "mayHave", desc := "(II)Z" } : Jvm.MethodName) ({ cls := "VerseCommittee$Planner", name := "mayHave", desc := "(II)Z" } : Jvm.MethodName)) ∈ BIG := big_mem 69 (by decide +kernel) rfl
theorem w_be13eafd : (Jvm.Cond.selects "VerseCommitteeModel" ({ cls := "VerseCommitteeModel", name := "daysOf", desc := "(II)I" } : Jvm.MethodName) ({ cls := "VerseCommitteeModel", name := "daysOf", desc := "(II)I" } : Jvm.MethodName)) ∈ BIG := big_mem 107 (by decide +kernel) rfl
theorem w_be552470 : (Jvm.Cond.methodLink "VerseCommittee" (280 : Nat) ({ cls := "VerseCommittee$People", name := "makeVoid", desc := "(I)V" } : Jvm.MethodName)) ∈ BIG := big_mem 1179 (by decide +kernel) rfl
theorem w_be58cb4c : (Jvm.Cond.fieldLink "VerseCommittee$Shelf" (24 : Nat) "VerseCommittee$Shelf" "turnDay" "[I") ∈ BIG := big_mem 300 (by decide +kernel) rfl
theorem w_be759ffd : (Jvm.Cond.fieldLink "VerseCommittee$Laws" (38 : Nat) "VerseCommittee$Laws" "values" "[I") ∈ BIG := big_mem 263 (by decide +kernel) rfl
theorem w_beabceb2 : (Jvm.Cond.methodLink "VerseCommittee" (382 : Nat) ({ cls := "VerseCommittee$Rendering", name := "tell", desc := "(I)I" } : Jvm.MethodName)) ∈ BIG := big_mem 1575 (by decide +kernel) rfl
theorem w_beb3d967 : (Jvm.Cond.code ({ cls := "VerseCommittee", name := "look", desc := "(II)I" } : Jvm.MethodName) prog_1_method_39_code (4 : Nat) (Option.some Jvm.ClassFile.FieldType.int)) ∈ BIG := big_mem 1574 (by decide +kernel) rfl
theorem w_bed624e3 : (Jvm.Cond.code ({ cls := "VerseCommittee$Laws", name := "clausesOf", desc := "(I)I" } : Jvm.MethodName) prog_4_method_7_code (2 : Nat) (Option.some Jvm.ClassFile.FieldType.int)) ∈ BIG := big_mem 841 (by decide +kernel) rfl
theorem w_bef4a4e9 : (Jvm.Cond.selects "VerseCommitteeModel" ({ cls := "VerseCommitteeModel", name := "syllables", desc := "(I)I" } : Jvm.MethodName) ({ cls := "VerseCommitteeModel", name := "syllables", desc := "(I)I" } : Jvm.MethodName)) ∈ BIG := big_mem 1970 (by decide +kernel) rfl
theorem w_bf6b5d19 : (Jvm.Cond.methodLink "VerseCommitteeLaw" (110 : Nat) ({ cls := "VerseCommittee", name := "breach", desc := "(III)I" } : Jvm.MethodName)) ∈ BIG := big_mem 1267 (by decide +kernel) rfl
theorem w_bfa10136 : (Jvm.Cond.code ({ cls := "VerseCommitteeModel", name := "readsMust", desc := "(I)V" } : Jvm.MethodName) prog_14_method_48_code (2 : Nat) (Option.none : Option Jvm.ClassFile.FieldType)) ∈ BIG := big_mem 2018 (by decide +kernel) rfl
theorem w_bfada3a0 : (Jvm.Cond.methodLink "VerseCommittee$Rendering" (3 : Nat) ({ cls := "java/lang/Object", name := "<init>", desc := "()V" } : Jvm.MethodName)) ∈ BIG := big_mem 1026 (by decide +kernel) rfl
theorem w_bfc46352 : (Jvm.Cond.methodLink "VerseCommittee$Findings" (109 : Nat) ({ cls := "VerseCommittee$Laws", name := "size", desc := "()I" } : Jvm.MethodName)) ∈ BIG := big_mem 1235 (by decide +kernel) rfl
theorem w_bff53753 : (Jvm.Cond.code ({ cls := "VerseCommitteeModel", name := "readsNumber", desc := "(I)I" } : Jvm.MethodName) prog_14_method_34_code (4 : Nat) (Option.some Jvm.ClassFile.FieldType.int)) ∈ BIG := big_mem 2022 (by decide +kernel) rfl
theorem w_bffcb78c : (Jvm.Cond.instanceMethod ({ cls := "VerseCommitteeModel", name := "goesOn", desc := "()Z" } : Jvm.MethodName)) ∈ BIG := big_mem 2068 (by decide +kernel) rfl
theorem w_c0043685 : (Jvm.Cond.methodLink "VerseCommitteeModel" (361 : Nat) ({ cls := "VerseCommitteeModel", name := "must", desc := "(I)V" } : Jvm.MethodName)) ∈ BIG := big_mem 2027 (by decide +kernel) rfl
theorem w_c0215795 : (Jvm.Cond.code ({ cls := "VerseCommitteeModel", name := "token", desc := "(III)I" } : Jvm.MethodName) prog_14_method_12_code (4 : Nat) (Option.some Jvm.ClassFile.FieldType.int)) ∈ BIG := big_mem 1943 (by decide +kernel) rfl
theorem w_c0463c94 : (Jvm.Cond.methodLink "VerseCommittee$Planner" (64 : Nat) ({ cls := "VerseCommittee$People", name := "rateOf", desc := "(I)I" } : Jvm.MethodName)) ∈ BIG := big_mem 1546 (by decide +kernel) rfl
theorem w_c0561ab5 : (Jvm.Cond.instanceMethod ({ cls := "VerseCommittee$Rendering", name := "keepVote", desc := "(II)V" } : Jvm.MethodName)) ∈ BIG := big_mem 1150 (by decide +kernel) rfl
theorem w_c061ccb0 : (Jvm.Cond.instanceMethod ({ cls := "VerseCommittee$Laws", name := "<init>", desc := "()V" } : Jvm.MethodName)) ∈ BIG := big_mem 251 (by decide +kernel) rfl
theorem w_c09770e4 : (Jvm.Cond.methodLink "VerseCommittee$Shelf" (38 : Nat) ({ cls := "VerseCommittee$Shelf", name := "fixedNumber", desc := "(I)I" } : Jvm.MethodName)) ∈ BIG := big_mem 1140 (by decide +kernel) rfl
theorem w_c09b0a64 : (Jvm.Cond.code ({ cls := "VerseCommittee$Choices", name := "leastPriced", desc := "()I" } : Jvm.MethodName) prog_2_method_6_code (1 : Nat) (Option.some Jvm.ClassFile.FieldType.int)) ∈ BIG := big_mem 1427 (by decide +kernel) rfl
theorem w_c0ae9d3f : (Jvm.Cond.selects "VerseCommitteeModel" ({ cls := "VerseCommitteeModel", name := "factor", desc := "()V" } : Jvm.MethodName) ({ cls := "VerseCommitteeModel", name := "factor", desc := "()V" } : Jvm.MethodName)) ∈ BIG := big_mem 95 (by decide +kernel) rfl
theorem w_c0d490a3 : (Jvm.Cond.code ({ cls := "VerseCommittee$Findings", name := "told", desc := "(I)I" } : Jvm.MethodName) prog_3_method_3_code (2 : Nat) (Option.some Jvm.ClassFile.FieldType.int)) ∈ BIG := big_mem 1274 (by decide +kernel) rfl
theorem w_c0ef8000 : (Jvm.Cond.instanceMethod ({ cls := "VerseCommittee$Shelf", name := "at", desc := "(I)LVerseCommittee$Rendering;" } : Jvm.MethodName)) ∈ BIG := big_mem 1085 (by decide +kernel) rfl
theorem w_c0fcd3c9 : (Jvm.Cond.methodLink "VerseCommittee$Choices" (92 : Nat) ({ cls := "VerseCommittee$Verses", name := "size", desc := "()I" } : Jvm.MethodName)) ∈ BIG := big_mem 1377 (by decide +kernel) rfl
theorem w_c1814d2f : (Jvm.Cond.instanceMethod ({ cls := "VerseCommitteeModel", name := "judge", desc := "(I)I" } : Jvm.MethodName)) ∈ BIG := big_mem 2376 (by decide +kernel) rfl
theorem w_c1a5c1e0 : (Jvm.Cond.instanceMethod ({ cls := "VerseCommitteeModel", name := "company", desc := "(II)I" } : Jvm.MethodName)) ∈ BIG := big_mem 1980 (by decide +kernel) rfl
theorem w_c1a9e6b3 : (Jvm.Cond.methodLink "VerseCommitteeModel" (478 : Nat) ({ cls := "VerseCommitteeModel", name := "wordOf", desc := "(III)I" } : Jvm.MethodName)) ∈ BIG := big_mem 2266 (by decide +kernel) rfl
theorem w_c1b41744 : (Jvm.Cond.methodLink "VerseCommitteeModel" (385 : Nat) ({ cls := "VerseCommitteeModel", name := "isInForce", desc := "(III)Z" } : Jvm.MethodName)) ∈ BIG := big_mem 2111 (by decide +kernel) rfl
theorem w_c1bb0434 : (Jvm.Cond.selects "VerseCommittee$Findings" ({ cls := "VerseCommittee$Findings", name := "shareClause", desc := "(II)Z" } : Jvm.MethodName) ({ cls := "VerseCommittee$Findings", name := "shareClause", desc := "(II)Z" } : Jvm.MethodName)) ∈ BIG := big_mem 49 (by decide +kernel) rfl
theorem w_c1be8d7e : (Jvm.Cond.fieldLink "VerseCommittee$Choices" (28 : Nat) "VerseCommittee$Choices" "barred" "[Z") ∈ BIG := big_mem 461 (by decide +kernel) rfl
theorem w_c1c3cca9 : (Jvm.Cond.code ({ cls := "VerseCommittee$Findings", name := "seekUnlike", desc := "(II)Z" } : Jvm.MethodName) prog_3_method_9_code (5 : Nat) (Option.some Jvm.ClassFile.FieldType.boolean)) ∈ BIG := big_mem 1296 (by decide +kernel) rfl
theorem w_c1f233ea : (Jvm.Cond.fieldLink "VerseCommittee$Rendering" (25 : Nat) "VerseCommittee$Rendering" "fixedDay" "I") ∈ BIG := big_mem 1036 (by decide +kernel) rfl
theorem w_c21e94f1 : (Jvm.Cond.instanceMethod ({ cls := "VerseCommitteeModel", name := "spells", desc := "(III)V" } : Jvm.MethodName)) ∈ BIG := big_mem 1958 (by decide +kernel) rfl
theorem w_c224371c : (Jvm.Cond.methodLink "VerseCommittee$Reckoner" (159 : Nat) ({ cls := "VerseCommittee$Reckoner", name := "letterValue", desc := "(I)I" } : Jvm.MethodName)) ∈ BIG := big_mem 956 (by decide +kernel) rfl
theorem w_c22f78f4 : (Jvm.Cond.selects "VerseCommittee" ({ cls := "VerseCommittee", name := "missed", desc := "(I)I" } : Jvm.MethodName) ({ cls := "VerseCommittee", name := "missed", desc := "(I)I" } : Jvm.MethodName)) ∈ BIG := big_mem 1464 (by decide +kernel) rfl
theorem w_c25bb477 : (Jvm.Cond.instanceMethod ({ cls := "VerseCommittee$Choices", name := "chosen", desc := "(I)I" } : Jvm.MethodName)) ∈ BIG := big_mem 1418 (by decide +kernel) rfl
theorem w_c26a6612 : (Jvm.Cond.fieldLink "VerseCommittee$People" (38 : Nat) "VerseCommittee$People" "voided" "I") ∈ BIG := big_mem 230 (by decide +kernel) rfl
theorem w_c280c607 : (Jvm.Cond.selects "VerseCommitteeModel" ({ cls := "VerseCommitteeModel", name := "centre", desc := "(I)Z" } : Jvm.MethodName) ({ cls := "VerseCommitteeModel", name := "centre", desc := "(I)Z" } : Jvm.MethodName)) ∈ BIG := big_mem 1985 (by decide +kernel) rfl
theorem w_c2982c61 : (Jvm.Cond.code ({ cls := "VerseCommittee$Planner", name := "daysOf", desc := "(I)I" } : Jvm.MethodName) prog_7_method_3_code (6 : Nat) (Option.some Jvm.ClassFile.FieldType.int)) ∈ BIG := big_mem 1562 (by decide +kernel) rfl
theorem w_c2ba494d : (Jvm.Cond.instanceMethod ({ cls := "VerseCommittee$Laws", name := "clausesOf", desc := "(I)I" } : Jvm.MethodName)) ∈ BIG := big_mem 839 (by decide +kernel) rfl
theorem w_c2f40d7d : (Jvm.Cond.code ({ cls := "VerseCommitteeModel", name := "vote", desc := "(IIZ)Z" } : Jvm.MethodName) prog_14_method_70_code (5 : Nat) (Option.some Jvm.ClassFile.FieldType.boolean)) ∈ BIG := big_mem 2165 (by decide +kernel) rfl
theorem w_c30b7ff5 : (Jvm.Cond.code ({ cls := "VerseCommitteeModel", name := "isWord", desc := "(I)Z" } : Jvm.MethodName) prog_14_method_5_code (2 : Nat) (Option.some Jvm.ClassFile.FieldType.boolean)) ∈ BIG := big_mem 1967 (by decide +kernel) rfl
theorem w_c32a6e05 : (Jvm.Cond.methodLink "VerseCommittee" (53 : Nat) ({ cls := "VerseCommittee$Parser", name := "<init>", desc := "(LVerseCommittee$Laws;)V" } : Jvm.MethodName)) ∈ BIG := big_mem 321 (by decide +kernel) rfl
theorem w_c3329f6d : (Jvm.Cond.methodLink "VerseCommittee$Choices" (112 : Nat) ({ cls := "VerseCommittee$Choices", name := "barByClauses", desc := "(I[II)V" } : Jvm.MethodName)) ∈ BIG := big_mem 1390 (by decide +kernel) rfl
theorem w_c38b64d7 : (Jvm.Cond.selects "VerseCommitteeModel" ({ cls := "VerseCommitteeModel", name := "reads", desc := "(IIIZ)Z" } : Jvm.MethodName) ({ cls := "VerseCommitteeModel", name := "reads", desc := "(IIIZ)Z" } : Jvm.MethodName)) ∈ BIG := big_mem 2331 (by decide +kernel) rfl
theorem w_c3d42dc4 : (Jvm.Cond.methodLink "VerseCommitteeModel" (442 : Nat) ({ cls := "VerseCommitteeModel", name := "goesWithout", desc := "(II)Z" } : Jvm.MethodName)) ∈ BIG := big_mem 2198 (by decide +kernel) rfl
theorem w_c3e5768e : (Jvm.Cond.code ({ cls := "VerseCommittee$Choices", name := "placeOf", desc := "(I)I" } : Jvm.MethodName) prog_2_method_7_code (3 : Nat) (Option.some Jvm.ClassFile.FieldType.int)) ∈ BIG := big_mem 1348 (by decide +kernel) rfl
theorem w_c4613e50 : (Jvm.Cond.code ({ cls := "VerseCommittee", name := "firstWrongByte", desc := "(I)I" } : Jvm.MethodName) prog_1_method_56_code (5 : Nat) (Option.some Jvm.ClassFile.FieldType.int)) ∈ BIG := big_mem 1570 (by decide +kernel) rfl
theorem w_c478a340 : (Jvm.Cond.instanceMethod ({ cls := "VerseCommitteeModel", name := "isDay", desc := "(I)Z" } : Jvm.MethodName)) ∈ BIG := big_mem 1997 (by decide +kernel) rfl
theorem w_c485ba1f : (Jvm.Cond.fieldLink "VerseCommitteeModel" (72 : Nat) "VerseCommitteeModel" "second" "[I") ∈ BIG := big_mem 1653 (by decide +kernel) rfl
theorem w_c49d465f : (Jvm.Cond.selects "VerseCommittee$Choices" ({ cls := "VerseCommittee$Choices", name := "reckon", desc := "(I)V" } : Jvm.MethodName) ({ cls := "VerseCommittee$Choices", name := "reckon", desc := "(I)V" } : Jvm.MethodName)) ∈ BIG := big_mem 1375 (by decide +kernel) rfl
theorem w_c53cbdc7 : (Jvm.Cond.selects "VerseCommitteeModel" ({ cls := "VerseCommitteeModel", name := "option", desc := "(II)Z" } : Jvm.MethodName) ({ cls := "VerseCommitteeModel", name := "option", desc := "(II)Z" } : Jvm.MethodName)) ∈ BIG := big_mem 2276 (by decide +kernel) rfl
theorem w_c545be00 : (Jvm.Cond.instanceMethod ({ cls := "VerseCommittee$Parser", name := "clausesRead", desc := "()I" } : Jvm.MethodName)) ∈ BIG := big_mem 823 (by decide +kernel) rfl
theorem w_c5634496 : (Jvm.Cond.code ({ cls := "VerseCommittee$Reckoner", name := "reckonSum", desc := "(ZI)I" } : Jvm.MethodName) prog_8_method_16_code (7 : Nat) (Option.some Jvm.ClassFile.FieldType.int)) ∈ BIG := big_mem 940 (by decide +kernel) rfl
theorem w_c5726422 : (Jvm.Cond.instanceMethod ({ cls := "VerseCommittee", name := "asks", desc := "(III)I" } : Jvm.MethodName)) ∈ BIG := big_mem 964 (by decide +kernel) rfl
theorem w_c589431b : (Jvm.Cond.methodLink "VerseCommittee$Findings" (103 : Nat) ({ cls := "VerseCommittee$Laws", name := "rulesOf", desc := "(I)I" } : Jvm.MethodName)) ∈ BIG := big_mem 1259 (by decide +kernel) rfl
theorem w_c5a3b51c : (Jvm.Cond.methodLink "VerseCommitteeLaw" (177 : Nat) ({ cls := "VerseCommittee", name := "count", desc := "(I)I" } : Jvm.MethodName)) ∈ BIG := big_mem 1588 (by decide +kernel) rfl
theorem w_c5a7ecb1 : (Jvm.Cond.selects "VerseCommitteeModel" ({ cls := "VerseCommitteeModel", name := "printed", desc := "(III)I" } : Jvm.MethodName) ({ cls := "VerseCommitteeModel", name := "printed", desc := "(III)I" } : Jvm.MethodName)) ∈ BIG := big_mem 2346 (by decide +kernel) rfl
theorem w_c5aaac22 : (Jvm.Cond.initialized "VerseCommittee$Findings") ∈ BIG := big_mem 157 (by decide +kernel) rfl
theorem w_c5e30d9a : (Jvm.Cond.instanceMethod ({ cls := "VerseCommittee", name := "cost", desc := "(I)I" } : Jvm.MethodName)) ∈ BIG := big_mem 1366 (by decide +kernel) rfl
theorem w_c5fd2228 : (Jvm.Cond.selects "VerseCommittee$Reckoner" ({ cls := "VerseCommittee$Reckoner", name := "firstCopy", desc := "()I" } : Jvm.MethodName) ({ cls := "VerseCommittee$Reckoner", name := "firstCopy", desc := "()I" } : Jvm.MethodName)) ∈ BIG := big_mem 977 (by decide +kernel) rfl
theorem w_c5fe7ebb : (Jvm.Cond.methodLink "VerseCommitteeModel" (439 : Nat) ({ cls := "VerseCommitteeModel", name := "tells", desc := "(II)V" } : Jvm.MethodName)) ∈ BIG := big_mem 2186 (by decide +kernel) rfl
theorem w_c6365e40 : (Jvm.Cond.methodLink "VerseCommitteeModel" (293 : Nat) ({ cls := "VerseCommitteeModel", name := "fails", desc := "(II)V" } : Jvm.MethodName)) ∈ BIG := big_mem 2011 (by decide +kernel) rfl
theorem w_c6863cad : (Jvm.Cond.selects "VerseCommitteeModel" ({ cls := "VerseCommitteeModel", name := "emit", desc := "(II)V" } : Jvm.MethodName) ({ cls := "VerseCommitteeModel", name := "emit", desc := "(II)V" } : Jvm.MethodName)) ∈ BIG := big_mem 96 (by decide +kernel) rfl
theorem w_c699ae08 : (Jvm.Cond.fieldLink "VerseCommitteeModel" (421 : Nat) "VerseCommitteeModel" "renderings" "I") ∈ BIG := big_mem 1632 (by decide +kernel) rfl
theorem w_c7111fb7 : (Jvm.Cond.methodLink "VerseCommittee$Rendering" (76 : Nat) ({ cls := "VerseCommittee$Rendering", name := "nextSlot", desc := "(II)I" } : Jvm.MethodName)) ∈ BIG := big_mem 1322 (by decide +kernel) rfl
theorem w_c72a1c01 : (Jvm.Cond.methodLink "VerseCommittee$Planner" (92 : Nat) ({ cls := "VerseCommittee$People", name := "hasBook", desc := "(II)Z" } : Jvm.MethodName)) ∈ BIG := big_mem 1545 (by decide +kernel) rfl
theorem w_c760e1e1 : (Jvm.Cond.fieldLink "VerseCommittee$People" (11 : Nat) "VerseCommittee$People" "books" "[I") ∈ BIG := big_mem 223 (by decide +kernel) rfl
theorem w_c78f23e0 : (Jvm.Cond.selects "VerseCommittee$Reckoner" ({ cls := "VerseCommittee$Reckoner", name := "restDays", desc := "()I" } : Jvm.MethodName) ({ cls := "VerseCommittee$Reckoner", name := "restDays", desc := "()I" } : Jvm.MethodName)) ∈ BIG := big_mem 973 (by decide +kernel) rfl
theorem w_c7aee157 : (Jvm.Cond.methodLink "VerseCommittee$Reckoner" (118 : Nat) ({ cls := "VerseCommittee$Laws", name := "clausesOf", desc := "(I)I" } : Jvm.MethodName)) ∈ BIG := big_mem 882 (by decide +kernel) rfl
theorem w_c7c5609c : (Jvm.Cond.code ({ cls := "VerseCommitteeModel", name := "puts", desc := "(I)V" } : Jvm.MethodName) prog_14_method_31_code (2 : Nat) (Option.none : Option Jvm.ClassFile.FieldType)) ∈ BIG := big_mem 2050 (by decide +kernel) rfl
theorem w_c7e3cd7a : (Jvm.Cond.code ({ cls := "VerseCommittee", name := "spell", desc := "(III)Z" } : Jvm.MethodName) prog_1_method_7_code (4 : Nat) (Option.some Jvm.ClassFile.FieldType.boolean)) ∈ BIG := big_mem 654 (by decide +kernel) rfl
theorem w_c7f92502 : (Jvm.Cond.selects "VerseCommitteeModel" ({ cls := "VerseCommitteeModel", name := "valueOf", desc := "(III)I" } : Jvm.MethodName) ({ cls := "VerseCommitteeModel", name := "valueOf", desc := "(III)I" } : Jvm.MethodName)) ∈ BIG := big_mem 112 (by decide +kernel) rfl
theorem w_c7fc5a62 : (Jvm.Cond.methodLink "VerseCommitteeModel" (382 : Nat) ({ cls := "VerseCommitteeModel", name := "companyOf", desc := "(I)I" } : Jvm.MethodName)) ∈ BIG := big_mem 2115 (by decide +kernel) rfl
theorem w_c80900b6 : (Jvm.Cond.fieldLink "VerseCommittee$People" (18 : Nat) "VerseCommittee$People" "members" "[I") ∈ BIG := big_mem 225 (by decide +kernel) rfl
theorem w_c8109999 : (Jvm.Cond.fieldLink "VerseCommittee$People" (32 : Nat) "VerseCommittee$People" "centreMembers" "I") ∈ BIG := big_mem 226 (by decide +kernel) rfl
theorem w_c83ca9eb : (Jvm.Cond.selects "VerseCommitteeModel" ({ cls := "VerseCommitteeModel", name := "bars", desc := "(II)V" } : Jvm.MethodName) ({ cls := "VerseCommitteeModel", name := "bars", desc := "(II)V" } : Jvm.MethodName)) ∈ BIG := big_mem 136 (by decide +kernel) rfl
theorem w_c842f068 : (Jvm.Cond.instanceMethod ({ cls := "VerseCommittee", name := "token", desc := "(III)I" } : Jvm.MethodName)) ∈ BIG := big_mem 988 (by decide +kernel) rfl
theorem w_c847323e : (Jvm.Cond.instanceMethod ({ cls := "VerseCommittee$Shelf", name := "fixedVerses", desc := "()I" } : Jvm.MethodName)) ∈ BIG := big_mem 1611 (by decide +kernel) rfl
theorem w_c8a30ba8 : (Jvm.Cond.selects "VerseCommitteeModel" ({ cls := "VerseCommitteeModel", name := "clause", desc := "()V" } : Jvm.MethodName) ({ cls := "VerseCommitteeModel", name := "clause", desc := "()V" } : Jvm.MethodName)) ∈ BIG := big_mem 83 (by decide +kernel) rfl
theorem w_c8c8bacc : (Jvm.Cond.methodLink "VerseCommittee$Findings" (7 : Nat) ({ cls := "java/lang/Object", name := "<init>", desc := "()V" } : Jvm.MethodName)) ∈ BIG := big_mem 404 (by decide +kernel) rfl
theorem w_c8cd9b75 : (Jvm.Cond.methodLink "VerseCommittee$Words" (26 : Nat) ({ cls := "VerseCommittee$Words", name := "put", desc := "(I[II)V" } : Jvm.MethodName)) ∈ BIG := big_mem 644 (by decide +kernel) rfl
theorem w_c92d345e : (Jvm.Cond.code ({ cls := "VerseCommittee$People", name := "isVoid", desc := "(I)Z" } : Jvm.MethodName) prog_6_method_10_code (2 : Nat) (Option.some Jvm.ClassFile.FieldType.boolean)) ∈ BIG := big_mem 1012 (by decide +kernel) rfl
theorem w_c9879952 : (Jvm.Cond.code ({ cls := "VerseCommittee$Parser", name := "fail", desc := "(II)Z" } : Jvm.MethodName) prog_5_method_5_code (3 : Nat) (Option.some Jvm.ClassFile.FieldType.boolean)) ∈ BIG := big_mem 737 (by decide +kernel) rfl
theorem w_c99a7dd8 : (Jvm.Cond.methodLink "VerseCommittee$Planner" (84 : Nat) ({ cls := "VerseCommittee$Shelf", name := "fixedNumber", desc := "(I)I" } : Jvm.MethodName)) ∈ BIG := big_mem 1520 (by decide +kernel) rfl
theorem w_c9aecfd7 : (Jvm.Cond.methodLink "VerseCommittee" (395 : Nat) ({ cls := "VerseCommittee$Shelf", name := "fixedVerses", desc := "()I" } : Jvm.MethodName)) ∈ BIG := big_mem 1610 (by decide +kernel) rfl
theorem w_c9d7f19e : (Jvm.Cond.selects "VerseCommittee$Parser" ({ cls := "VerseCommittee$Parser", name := "readRest", desc := "(I)Z" } : Jvm.MethodName) ({ cls := "VerseCommittee$Parser", name := "readRest", desc := "(I)Z" } : Jvm.MethodName)) ∈ BIG := big_mem 25 (by decide +kernel) rfl
theorem w_ca0423f5 : (Jvm.Cond.fieldLink "VerseCommittee$Rendering" (55 : Nat) "VerseCommittee$Rendering" "madeDay" "I") ∈ BIG := big_mem 1034 (by decide +kernel) rfl
theorem w_ca146cc8 : (Jvm.Cond.code ({ cls := "VerseCommittee$Reckoner", name := "verdict", desc := "(I)I" } : Jvm.MethodName) prog_8_method_9_code (4 : Nat) (Option.some Jvm.ClassFile.FieldType.int)) ∈ BIG := big_mem 908 (by decide +kernel) rfl
theorem w_ca3613a8 : (Jvm.Cond.code ({ cls := "VerseCommittee$Planner", name := "through", desc := "(II)I" } : Jvm.MethodName) prog_7_method_6_code (2 : Nat) (Option.some Jvm.ClassFile.FieldType.int)) ∈ BIG := big_mem 1532 (by decide +kernel) rfl
theorem w_ca3b6e86 : (Jvm.Cond.fieldLink "VerseCommittee$Rendering" (37 : Nat) "VerseCommittee$Rendering" "keptAll" "[I") ∈ BIG := big_mem 1040 (by decide +kernel) rfl
theorem w_ca5e05f3 : (Jvm.Cond.methodLink "VerseCommitteeLaw" (149 : Nat) ({ cls := "VerseCommittee", name := "missed", desc := "(I)I" } : Jvm.MethodName)) ∈ BIG := big_mem 1462 (by decide +kernel) rfl
theorem w_ca5fe270 : (Jvm.Cond.code ({ cls := "VerseCommitteeModel", name := "companyOf", desc := "(I)I" } : Jvm.MethodName) prog_14_method_25_code (3 : Nat) (Option.some Jvm.ClassFile.FieldType.int)) ∈ BIG := big_mem 2118 (by decide +kernel) rfl
theorem w_ca8aab24 : (Jvm.Cond.selects "VerseCommittee$Choices" ({ cls := "VerseCommittee$Choices", name := "barByClauses", desc := "(I[II)V" } : Jvm.MethodName) ({ cls := "VerseCommittee$Choices", name := "barByClauses", desc := "(I[II)V" } : Jvm.MethodName)) ∈ BIG := big_mem 55 (by decide +kernel) rfl
theorem w_ca9c3354 : (Jvm.Cond.code ({ cls := "VerseCommittee$Words", name := "isSpelledSo", desc := "(I[II)Z" } : Jvm.MethodName) prog_12_method_13_code (5 : Nat) (Option.some Jvm.ClassFile.FieldType.boolean)) ∈ BIG := big_mem 643 (by decide +kernel) rfl
theorem w_caae0b17 : (Jvm.Cond.instanceMethod ({ cls := "VerseCommittee$Choices", name := "priceOfRow", desc := "()I" } : Jvm.MethodName)) ∈ BIG := big_mem 1409 (by decide +kernel) rfl
theorem w_cac2a7b7 : (Jvm.Cond.methodLink "VerseCommitteeModel" (466 : Nat) ({ cls := "VerseCommitteeModel", name := "breachesOf", desc := "(II)I" } : Jvm.MethodName)) ∈ BIG := big_mem 2222 (by decide +kernel) rfl
theorem w_cace01de : (Jvm.Cond.methodLink "VerseCommitteeModel" (436 : Nat) ({ cls := "VerseCommitteeModel", name := "fixedOf", desc := "(I)I" } : Jvm.MethodName)) ∈ BIG := big_mem 2182 (by decide +kernel) rfl
theorem w_cad8f49b : (Jvm.Cond.code ({ cls := "VerseCommitteeModel", name := "clause", desc := "()V" } : Jvm.MethodName) prog_14_method_50_code (3 : Nat) (Option.none : Option Jvm.ClassFile.FieldType)) ∈ BIG := big_mem 2006 (by decide +kernel) rfl
theorem w_cae058dd : (Jvm.Cond.selects "VerseCommittee" ({ cls := "VerseCommittee", name := "printed", desc := "(III)I" } : Jvm.MethodName) ({ cls := "VerseCommittee", name := "printed", desc := "(III)I" } : Jvm.MethodName)) ∈ BIG := big_mem 1486 (by decide +kernel) rfl
theorem w_cb1b6006 : (Jvm.Cond.instanceMethod ({ cls := "VerseCommittee$Reckoner", name := "<init>", desc := "(LVerseCommittee$Laws;LVerseCommittee$Verses;LVerseCommittee$People;)V" } : Jvm.MethodName)) ∈ BIG := big_mem 352 (by decide +kernel) rfl
theorem w_cb4d0ad9 : (Jvm.Cond.methodLink "VerseCommitteeLaw" (73 : Nat) ({ cls := "VerseCommittee", name := "token", desc := "(III)I" } : Jvm.MethodName)) ∈ BIG := big_mem 987 (by decide +kernel) rfl
theorem w_cb4fccf1 : (Jvm.Cond.selects "VerseCommittee" ({ cls := "VerseCommittee", name := "count", desc := "(I)I" } : Jvm.MethodName) ({ cls := "VerseCommittee", name := "count", desc := "(I)I" } : Jvm.MethodName)) ∈ BIG := big_mem 1590 (by decide +kernel) rfl
theorem w_cb4fff5f : (Jvm.Cond.fieldLink "VerseCommittee" (56 : Nat) "VerseCommittee" "parser" "LVerseCommittee$Parser;") ∈ BIG := big_mem 540 (by decide +kernel) rfl
theorem w_cb566cde : (Jvm.Cond.selects "VerseCommittee$Findings" ({ cls := "VerseCommittee$Findings", name := "told", desc := "(I)I" } : Jvm.MethodName) ({ cls := "VerseCommittee$Findings", name := "told", desc := "(I)I" } : Jvm.MethodName)) ∈ BIG := big_mem 1273 (by decide +kernel) rfl
theorem w_cb6c5362 : (Jvm.Cond.code ({ cls := "VerseCommitteeModel", name := "unlike", desc := "(II)I" } : Jvm.MethodName) prog_14_method_94_code (3 : Nat) (Option.some Jvm.ClassFile.FieldType.int)) ∈ BIG := big_mem 2253 (by decide +kernel) rfl
theorem w_cbb4f768 : (Jvm.Cond.selects "VerseCommitteeModel" ({ cls := "VerseCommitteeModel", name := "lastOf", desc := "(IIII)I" } : Jvm.MethodName) ({ cls := "VerseCommitteeModel", name := "lastOf", desc := "(IIII)I" } : Jvm.MethodName)) ∈ BIG := big_mem 104 (by decide +kernel) rfl
theorem w_cbc0d1a6 : (Jvm.Cond.instanceMethod ({ cls := "VerseCommittee", name := "spell", desc := "(III)Z" } : Jvm.MethodName)) ∈ BIG := big_mem 652 (by decide +kernel) rfl
theorem w_cbca2035 : (Jvm.Cond.selects "VerseCommittee" ({ cls := "VerseCommittee", name := "fixedOn", desc := "(II)I" } : Jvm.MethodName) ({ cls := "VerseCommittee", name := "fixedOn", desc := "(II)I" } : Jvm.MethodName)) ∈ BIG := big_mem 1207 (by decide +kernel) rfl
theorem w_cbeb6a9b : (Jvm.Cond.instanceMethod ({ cls := "VerseCommittee$Laws", name := "putDays", desc := "(III)V" } : Jvm.MethodName)) ∈ BIG := big_mem 819 (by decide +kernel) rfl
theorem w_cc00ae5f : (Jvm.Cond.instanceMethod ({ cls := "VerseCommittee", name := "printed", desc := "(III)I" } : Jvm.MethodName)) ∈ BIG := big_mem 1485 (by decide +kernel) rfl
theorem w_cc6f57a8 : (Jvm.Cond.instanceMethod ({ cls := "VerseCommitteeModel", name := "differ", desc := "(III)I" } : Jvm.MethodName)) ∈ BIG := big_mem 2151 (by decide +kernel) rfl
theorem w_ccba4804 : (Jvm.Cond.methodLink "VerseCommittee$Findings" (150 : Nat) ({ cls := "VerseCommittee$Findings", name := "isUnlike", desc := "(II)Z" } : Jvm.MethodName)) ∈ BIG := big_mem 1310 (by decide +kernel) rfl
theorem w_cce7e9a5 : (Jvm.Cond.methodLink "VerseCommittee$Parser" (37 : Nat) ({ cls := "VerseCommittee$Parser", name := "readClause", desc := "(I)Z" } : Jvm.MethodName)) ∈ BIG := big_mem 726 (by decide +kernel) rfl
theorem w_ccf1ec00 : (Jvm.Cond.methodLink "VerseCommittee" (182 : Nat) ({ cls := "VerseCommittee$Laws", name := "hasClause", desc := "(II)Z" } : Jvm.MethodName)) ∈ BIG := big_mem 834 (by decide +kernel) rfl
theorem w_cd6ad574 : (Jvm.Cond.selects "VerseCommittee$Laws" ({ cls := "VerseCommittee$Laws", name := "enact", desc := "([III)I" } : Jvm.MethodName) ({ cls := "VerseCommittee$Laws", name := "enact", desc := "([III)I" } : Jvm.MethodName)) ∈ BIG := big_mem 828 (by decide +kernel) rfl
theorem w_cdd03d04 : (Jvm.Cond.methodLink "VerseCommitteeLaw" (148 : Nat) ({ cls := "VerseCommitteeModel", name := "reads", desc := "(IIIZ)Z" } : Jvm.MethodName)) ∈ BIG := big_mem 2329 (by decide +kernel) rfl
theorem w_cddf6902 : (Jvm.Cond.fieldLink "VerseCommittee$Verses" (19 : Nat) "VerseCommittee$Verses" "rows" "[[I") ∈ BIG := big_mem 200 (by decide +kernel) rfl
theorem w_cde6d910 : (Jvm.Cond.methodLink "VerseCommittee$Findings" (99 : Nat) ({ cls := "VerseCommittee$Findings", name := "seekSecond", desc := "(III)Z" } : Jvm.MethodName)) ∈ BIG := big_mem 1285 (by decide +kernel) rfl
theorem w_cdf4ffaa : (Jvm.Cond.methodLink "VerseCommitteeLaw" (46 : Nat) ({ cls := "VerseCommittee", name := "company", desc := "(II)I" } : Jvm.MethodName)) ∈ BIG := big_mem 682 (by decide +kernel) rfl
theorem w_cdf6bbf4 : (Jvm.Cond.code ({ cls := "VerseCommittee$Parser", name := "readFactor", desc := "(I)Z" } : Jvm.MethodName) prog_5_method_23_code (2 : Nat) (Option.some Jvm.ClassFile.FieldType.boolean)) ∈ BIG := big_mem 796 (by decide +kernel) rfl
theorem w_ce03d274 : (Jvm.Cond.instanceMethod ({ cls := "VerseCommittee$Planner", name := "daysOfCentre", desc := "()I" } : Jvm.MethodName)) ∈ BIG := big_mem 1524 (by decide +kernel) rfl
theorem w_ce10f657 : (Jvm.Cond.selects "VerseCommittee$People" ({ cls := "VerseCommittee$People", name := "centreRate", desc := "()I" } : Jvm.MethodName) ({ cls := "VerseCommittee$People", name := "centreRate", desc := "()I" } : Jvm.MethodName)) ∈ BIG := big_mem 1528 (by decide +kernel) rfl
theorem w_ce1c6efc : (Jvm.Cond.selects "VerseCommitteeModel" ({ cls := "VerseCommitteeModel", name := "syllablesOf", desc := "(I)I" } : Jvm.MethodName) ({ cls := "VerseCommitteeModel", name := "syllablesOf", desc := "(I)I" } : Jvm.MethodName)) ∈ BIG := big_mem 80 (by decide +kernel) rfl
theorem w_ce72b4b3 : (Jvm.Cond.fieldLink "VerseCommitteeModel" (45 : Nat) "VerseCommitteeModel" "isVoid" "[Z") ∈ BIG := big_mem 1644 (by decide +kernel) rfl
theorem w_ce78072d : (Jvm.Cond.methodLink "VerseCommittee$Findings" (116 : Nat) ({ cls := "VerseCommittee$Laws", name := "clausesOf", desc := "(I)I" } : Jvm.MethodName)) ∈ BIG := big_mem 1237 (by decide +kernel) rfl
theorem w_ceade7a3 : (Jvm.Cond.fieldLink "VerseCommittee$Findings" (41 : Nat) "VerseCommittee$Findings" "reckoner" "LVerseCommittee$Reckoner;") ∈ BIG := big_mem 407 (by decide +kernel) rfl
theorem w_ceb89b54 : (Jvm.Cond.fieldLink "VerseCommittee$Shelf" (46 : Nat) "VerseCommittee$Shelf" "turns" "I") ∈ BIG := big_mem 303 (by decide +kernel) rfl
theorem w_ced599dd : (Jvm.Cond.code ({ cls := "VerseCommittee$Choices", name := "isOption", desc := "(II)Z" } : Jvm.MethodName) prog_2_method_8_code (4 : Nat) (Option.some Jvm.ClassFile.FieldType.boolean)) ∈ BIG := big_mem 1352 (by decide +kernel) rfl
theorem w_ced9779e : (Jvm.Cond.instanceMethod ({ cls := "VerseCommittee$Words", name := "has", desc := "(I)Z" } : Jvm.MethodName)) ∈ BIG := big_mem 659 (by decide +kernel) rfl
theorem w_cf38f54b : (Jvm.Cond.code ({ cls := "VerseCommitteeModel", name := "isSmall", desc := "(I)Z" } : Jvm.MethodName) prog_14_method_13_code (3 : Nat) (Option.some Jvm.ClassFile.FieldType.boolean)) ∈ BIG := big_mem 1951 (by decide +kernel) rfl
theorem w_cf464490 : (Jvm.Cond.selects "VerseCommittee" ({ cls := "VerseCommittee", name := "tapeHasSlots", desc := "(II)Z" } : Jvm.MethodName) ({ cls := "VerseCommittee", name := "tapeHasSlots", desc := "(II)Z" } : Jvm.MethodName)) ∈ BIG := big_mem 38 (by decide +kernel) rfl
theorem w_cf4ad643 : (Jvm.Cond.methodLink "VerseCommittee" (147 : Nat) ({ cls := "VerseCommittee", name := "isRate", desc := "(I)Z" } : Jvm.MethodName)) ∈ BIG := big_mem 686 (by decide +kernel) rfl
theorem w_cf7f859b : (Jvm.Cond.instanceMethod ({ cls := "VerseCommittee$Words", name := "vowelRows", desc := "(I)I" } : Jvm.MethodName)) ∈ BIG := big_mem 673 (by decide +kernel) rfl
theorem w_cfac2ac3 : (Jvm.Cond.code ({ cls := "VerseCommitteeModel", name := "isValue", desc := "(I)Z" } : Jvm.MethodName) prog_14_method_39_code (1 : Nat) (Option.some Jvm.ClassFile.FieldType.boolean)) ∈ BIG := big_mem 2065 (by decide +kernel) rfl
theorem w_cfb3f4a6 : (Jvm.Cond.code ({ cls := "VerseCommittee$Parser", name := "readNumber", desc := "(I)I" } : Jvm.MethodName) prog_5_method_14_code (5 : Nat) (Option.some Jvm.ClassFile.FieldType.int)) ∈ BIG := big_mem 757 (by decide +kernel) rfl
theorem w_cfb4ad41 : (Jvm.Cond.fieldLink "VerseCommittee$Reckoner" (99 : Nat) "VerseCommittee$Reckoner" "at" "I") ∈ BIG := big_mem 368 (by decide +kernel) rfl
theorem w_d004c177 : (Jvm.Cond.selects "VerseCommittee$Parser" ({ cls := "VerseCommittee$Parser", name := "readCondition", desc := "(I)Z" } : Jvm.MethodName) ({ cls := "VerseCommittee$Parser", name := "readCondition", desc := "(I)Z" } : Jvm.MethodName)) ∈ BIG := big_mem 14 (by decide +kernel) rfl
theorem w_d03c283e : (Jvm.Cond.instanceMethod ({ cls := "VerseCommitteeModel", name := "prices", desc := "()V" } : Jvm.MethodName)) ∈ BIG := big_mem 2299 (by decide +kernel) rfl
theorem w_d04b287b : (Jvm.Cond.code ({ cls := "VerseCommitteeModel", name := "cost", desc := "(I)I" } : Jvm.MethodName) prog_14_method_104_code (2 : Nat) (Option.some Jvm.ClassFile.FieldType.int)) ∈ BIG := big_mem 2289 (by decide +kernel) rfl
theorem w_d05c172d : (Jvm.Cond.selects "VerseCommittee$Reckoner" ({ cls := "VerseCommittee$Reckoner", name := "numberThere", desc := "()I" } : Jvm.MethodName) ({ cls := "VerseCommittee$Reckoner", name := "numberThere", desc := "()I" } : Jvm.MethodName)) ∈ BIG := big_mem 35 (by decide +kernel) rfl
theorem w_d06a0e36 : (Jvm.Cond.selects "VerseCommittee" ({ cls := "VerseCommittee", name := "breaches", desc := "(I)I" } : Jvm.MethodName) ({ cls := "VerseCommittee", name := "breaches", desc := "(I)I" } : Jvm.MethodName)) ∈ BIG := big_mem 1219 (by decide +kernel) rfl
theorem w_d081718c : (Jvm.Cond.instanceMethod ({ cls := "VerseCommitteeModel", name := "here", desc := "()I" } : Jvm.MethodName)) ∈ BIG := big_mem 2009 (by decide +kernel) rfl
theorem w_d08b2b95 : (Jvm.Cond.instanceMethod ({ cls := "VerseCommittee$Parser", name := "readNumber", desc := "(I)I" } : Jvm.MethodName)) ∈ BIG := big_mem 756 (by decide +kernel) rfl
theorem w_d08feac3 : (Jvm.Cond.code ({ cls := "VerseCommitteeModel", name := "digit", desc := "(III)I" } : Jvm.MethodName) prog_14_method_100_code (5 : Nat) (Option.some Jvm.ClassFile.FieldType.int)) ∈ BIG := big_mem 2296 (by decide +kernel) rfl
theorem w_d0d0c5cd : (Jvm.Cond.methodLink "VerseCommittee$Laws" (56 : Nat) ({ cls := "VerseCommittee$Laws", name := "clauseOf", desc := "(II)I" } : Jvm.MethodName)) ∈ BIG := big_mem 743 (by decide +kernel) rfl
theorem w_d0e3bbac : (Jvm.Cond.code ({ cls := "VerseCommittee$Verses", name := "has", desc := "(I)Z" } : Jvm.MethodName) prog_11_method_3_code (2 : Nat) (Option.some Jvm.ClassFile.FieldType.boolean)) ∈ BIG := big_mem 606 (by decide +kernel) rfl
theorem w_d0f2d40e : (Jvm.Cond.fieldLink "VerseCommittee$Words" (18 : Nat) "VerseCommittee$Words" "size" "I") ∈ BIG := big_mem 180 (by decide +kernel) rfl
theorem w_d11749e0 : (Jvm.Cond.methodLink "VerseCommittee$Verses" (43 : Nat) ({ cls := "java/lang/Integer", name := "bitCount", desc := "(I)I" } : Jvm.MethodName)) ∈ BIG := big_mem 1470 (by decide +kernel) rfl
theorem w_d14c092a : (Jvm.Cond.code ({ cls := "VerseCommittee$Rendering", name := "takeOut", desc := "(I)I" } : Jvm.MethodName) prog_9_method_18_code (2 : Nat) (Option.some Jvm.ClassFile.FieldType.int)) ∈ BIG := big_mem 1190 (by decide +kernel) rfl
theorem w_d16e6520 : (Jvm.Cond.fieldLink "VerseCommitteeModel" (433 : Nat) "VerseCommitteeModel" "tellings" "I") ∈ BIG := big_mem 1692 (by decide +kernel) rfl
theorem w_d19c1532 : (Jvm.Cond.instanceMethod ({ cls := "VerseCommitteeModel", name := "<init>", desc := "()V" } : Jvm.MethodName)) ∈ BIG := big_mem 1621 (by decide +kernel) rfl
theorem w_d1ae37dc : (Jvm.Cond.fieldLink "VerseCommitteeModel" (201 : Nat) "VerseCommitteeModel" "openBook" "[I") ∈ BIG := big_mem 1717 (by decide +kernel) rfl
theorem w_d1ca87b3 : (Jvm.Cond.instanceMethod ({ cls := "VerseCommittee$Choices", name := "arePart", desc := "(II)Z" } : Jvm.MethodName)) ∈ BIG := big_mem 1363 (by decide +kernel) rfl
theorem w_d1d2c0af : (Jvm.Cond.instanceMethod ({ cls := "VerseCommittee$Choices", name := "leastPriced", desc := "()I" } : Jvm.MethodName)) ∈ BIG := big_mem 1425 (by decide +kernel) rfl
theorem w_d22f28c3 : (Jvm.Cond.fieldLink "VerseCommittee$Words" (15 : Nat) "VerseCommittee$Words" "sizes" "[B") ∈ BIG := big_mem 179 (by decide +kernel) rfl
theorem w_d2345fe8 : (Jvm.Cond.code ({ cls := "VerseCommittee$Shelf", name := "size", desc := "()I" } : Jvm.MethodName) prog_10_method_2_code (1 : Nat) (Option.some Jvm.ClassFile.FieldType.int)) ∈ BIG := big_mem 1605 (by decide +kernel) rfl
theorem w_d24f1dec : (Jvm.Cond.selects "VerseCommitteeModel" ({ cls := "VerseCommitteeModel", name := "sums", desc := "(Z)V" } : Jvm.MethodName) ({ cls := "VerseCommitteeModel", name := "sums", desc := "(Z)V" } : Jvm.MethodName)) ∈ BIG := big_mem 98 (by decide +kernel) rfl
theorem w_d2ea08dd : (Jvm.Cond.methodLink "VerseCommittee$Words" (22 : Nat) ({ cls := "VerseCommittee$Words", name := "isThere", desc := "([II)Z" } : Jvm.MethodName)) ∈ BIG := big_mem 636 (by decide +kernel) rfl
theorem w_d30a00c5 : (Jvm.Cond.fieldLink "VerseCommittee$Choices" (35 : Nat) "VerseCommittee$Choices" "laws" "LVerseCommittee$Laws;") ∈ BIG := big_mem 452 (by decide +kernel) rfl
theorem w_d335b73a : (Jvm.Cond.fieldLink "VerseCommittee$Reckoner" (43 : Nat) "VerseCommittee$Reckoner" "book" "I") ∈ BIG := big_mem 365 (by decide +kernel) rfl
theorem w_d3360d31 : (Jvm.Cond.code ({ cls := "VerseCommittee", name := "isSign", desc := "(I)Z" } : Jvm.MethodName) prog_1_method_47_code (1 : Nat) (Option.some Jvm.ClassFile.FieldType.boolean)) ∈ BIG := big_mem 1340 (by decide +kernel) rfl
theorem w_d36e1dff : (Jvm.Cond.methodLink "VerseCommittee$Reckoner" (46 : Nat) ({ cls := "VerseCommittee$Verses", name := "measureOf", desc := "(I)I" } : Jvm.MethodName)) ∈ BIG := big_mem 850 (by decide +kernel) rfl
theorem w_d37c0102 : (Jvm.Cond.instanceMethod ({ cls := "VerseCommittee$Laws", name := "textOf", desc := "(I)[I" } : Jvm.MethodName)) ∈ BIG := big_mem 917 (by decide +kernel) rfl
theorem w_d3b6846f : (Jvm.Cond.methodLink "VerseCommittee$Reckoner" (156 : Nat) ({ cls := "VerseCommittee$Reckoner", name := "numberThere", desc := "()I" } : Jvm.MethodName)) ∈ BIG := big_mem 952 (by decide +kernel) rfl
theorem w_d3d69afb : (Jvm.Cond.methodLink "VerseCommittee$Choices" (3 : Nat) ({ cls := "java/lang/Object", name := "<init>", desc := "()V" } : Jvm.MethodName)) ∈ BIG := big_mem 451 (by decide +kernel) rfl
theorem w_d3e0f33b : (Jvm.Cond.selects "VerseCommittee$Reckoner" ({ cls := "VerseCommittee$Reckoner", name := "reckonPart", desc := "(ZI)Z" } : Jvm.MethodName) ({ cls := "VerseCommittee$Reckoner", name := "reckonPart", desc := "(ZI)Z" } : Jvm.MethodName)) ∈ BIG := big_mem 29 (by decide +kernel) rfl
theorem w_d3e2e11c : (Jvm.Cond.initialized "java/lang/Integer") ∈ BIG := big_mem 163 (by decide +kernel) rfl
theorem w_d3eb2339 : (Jvm.Cond.instanceMethod ({ cls := "VerseCommittee$Rendering", name := "leftBits", desc := "()I" } : Jvm.MethodName)) ∈ BIG := big_mem 1581 (by decide +kernel) rfl
theorem w_d427f642 : (Jvm.Cond.code ({ cls := "VerseCommitteeModel", name := "breaches", desc := "(I)I" } : Jvm.MethodName) prog_14_method_84_code (2 : Nat) (Option.some Jvm.ClassFile.FieldType.int)) ∈ BIG := big_mem 2221 (by decide +kernel) rfl
theorem w_d4292090 : (Jvm.Cond.methodLink "VerseCommitteeModel" (524 : Nat) ({ cls := "VerseCommitteeModel", name := "mayBe", desc := "(I)Z" } : Jvm.MethodName)) ∈ BIG := big_mem 2305 (by decide +kernel) rfl
theorem w_d4300f0d : (Jvm.Cond.methodLink "VerseCommittee$Rendering" (62 : Nat) ({ cls := "java/lang/Integer", name := "bitCount", desc := "(I)I" } : Jvm.MethodName)) ∈ BIG := big_mem 1123 (by decide +kernel) rfl
theorem w_d461cfbe : (Jvm.Cond.code ({ cls := "VerseCommitteeModel", name := "check", desc := "(I)I" } : Jvm.MethodName) prog_14_method_123_code (4 : Nat) (Option.some Jvm.ClassFile.FieldType.int)) ∈ BIG := big_mem 2382 (by decide +kernel) rfl
theorem w_d4829efe : (Jvm.Cond.selects "VerseCommittee" ({ cls := "VerseCommittee", name := "distance", desc := "([I[I)I" } : Jvm.MethodName) ({ cls := "VerseCommittee", name := "distance", desc := "([I[I)I" } : Jvm.MethodName)) ∈ BIG := big_mem 37 (by decide +kernel) rfl
theorem w_d4c1f64f : (Jvm.Cond.instanceMethod ({ cls := "VerseCommittee$Rendering", name := "verseNumber", desc := "()I" } : Jvm.MethodName)) ∈ BIG := big_mem 1097 (by decide +kernel) rfl
theorem w_d5740218 : (Jvm.Cond.methodLink "VerseCommittee$Words" (41 : Nat) ({ cls := "VerseCommittee$Words", name := "sizeIn", desc := "(II)I" } : Jvm.MethodName)) ∈ BIG := big_mem 1505 (by decide +kernel) rfl
theorem w_d57abcf9 : (Jvm.Cond.methodLink "VerseCommittee" (344 : Nat) ({ cls := "VerseCommittee$Verses", name := "recordReader", desc := "(IIIZ)V" } : Jvm.MethodName)) ∈ BIG := big_mem 1458 (by decide +kernel) rfl
theorem w_d58396bc : (Jvm.Cond.code ({ cls := "VerseCommittee$Choices", name := "reckon", desc := "(I)V" } : Jvm.MethodName) prog_2_method_16_code (4 : Nat) (Option.none : Option Jvm.ClassFile.FieldType)) ∈ BIG := big_mem 1376 (by decide +kernel) rfl
theorem w_d58ff08f : (Jvm.Cond.instanceMethod ({ cls := "VerseCommittee$Shelf", name := "inState", desc := "(I)I" } : Jvm.MethodName)) ∈ BIG := big_mem 1615 (by decide +kernel) rfl
theorem w_d59a5eb0 : (Jvm.Cond.static ({ cls := "VerseCommittee$Reckoner", name := "isTermSign", desc := "(I)Z" } : Jvm.MethodName)) ∈ BIG := big_mem 961 (by decide +kernel) rfl
theorem w_d5b56ae1 : (Jvm.Cond.instanceMethod ({ cls := "VerseCommittee$Findings", name := "seekBreach", desc := "(LVerseCommittee$Rendering;II)Z" } : Jvm.MethodName)) ∈ BIG := big_mem 1222 (by decide +kernel) rfl
theorem w_d5d087f9 : (Jvm.Cond.fieldLink "VerseCommitteeModel" (256 : Nat) "VerseCommitteeModel" "companies" "I") ∈ BIG := big_mem 1629 (by decide +kernel) rfl
theorem w_d5e1b10c : (Jvm.Cond.instanceMethod ({ cls := "VerseCommitteeModel", name := "apart", desc := "(II)Z" } : Jvm.MethodName)) ∈ BIG := big_mem 2283 (by decide +kernel) rfl
theorem w_d6158a87 : (Jvm.Cond.code ({ cls := "VerseCommittee$Parser", name := "isBetween", desc := "(III)Z" } : Jvm.MethodName) prog_5_method_7_code (3 : Nat) (Option.some Jvm.ClassFile.FieldType.boolean)) ∈ BIG := big_mem 760 (by decide +kernel) rfl
theorem w_d6a59676 : (Jvm.Cond.methodLink "VerseCommittee$Laws" (48 : Nat) ({ cls := "VerseCommittee$Laws", name := "clausesOf", desc := "(I)I" } : Jvm.MethodName)) ∈ BIG := big_mem 838 (by decide +kernel) rfl
theorem w_d6d25d8f : (Jvm.Cond.code ({ cls := "VerseCommittee$Rendering", name := "turnAt", desc := "(I)I" } : Jvm.MethodName) prog_9_method_9_code (2 : Nat) (Option.some Jvm.ClassFile.FieldType.int)) ∈ BIG := big_mem 1388 (by decide +kernel) rfl
theorem w_d6f82b92 : (Jvm.Cond.methodLink "VerseCommittee" (139 : Nat) ({ cls := "VerseCommittee$Words", name := "has", desc := "(I)Z" } : Jvm.MethodName)) ∈ BIG := big_mem 658 (by decide +kernel) rfl
theorem w_d6fbcbab : (Jvm.Cond.fieldLink "VerseCommitteeModel" (268 : Nat) "VerseCommitteeModel" "place" "I") ∈ BIG := big_mem 1659 (by decide +kernel) rfl
theorem w_d7308a6b : (Jvm.Cond.instanceMethod ({ cls := "VerseCommitteeModel", name := "isOff", desc := "(I)Z" } : Jvm.MethodName)) ∈ BIG := big_mem 2327 (by decide +kernel) rfl
theorem w_d7470b8c : (Jvm.Cond.methodLink "VerseCommittee" (150 : Nat) ({ cls := "VerseCommittee$People", name := "enterCompany", desc := "(II)I" } : Jvm.MethodName)) ∈ BIG := big_mem 689 (by decide +kernel) rfl
theorem w_d75c9e76 : (Jvm.Cond.methodLink "VerseCommitteeModel" (323 : Nat) ({ cls := "VerseCommitteeModel", name := "readsNumber", desc := "(I)I" } : Jvm.MethodName)) ∈ BIG := big_mem 2019 (by decide +kernel) rfl
theorem w_d7734d42 : (Jvm.Cond.code ({ cls := "VerseCommittee$Shelf", name := "fixedThen", desc := "(II)I" } : Jvm.MethodName) prog_10_method_8_code (4 : Nat) (Option.some Jvm.ClassFile.FieldType.int)) ∈ BIG := big_mem 1216 (by decide +kernel) rfl
theorem w_d77f67ad : (Jvm.Cond.instanceMethod ({ cls := "VerseCommitteeModel", name := "readsMust", desc := "(I)V" } : Jvm.MethodName)) ∈ BIG := big_mem 2017 (by decide +kernel) rfl
theorem w_d790668f : (Jvm.Cond.fieldLink "VerseCommittee$Laws" (44 : Nat) "VerseCommittee$Laws" "size" "I") ∈ BIG := big_mem 265 (by decide +kernel) rfl
theorem w_d7c9ef51 : (Jvm.Cond.code ({ cls := "VerseCommitteeModel", name := "isChoice", desc := "(I)Z" } : Jvm.MethodName) prog_14_method_101_code (3 : Nat) (Option.some Jvm.ClassFile.FieldType.boolean)) ∈ BIG := big_mem 2293 (by decide +kernel) rfl
theorem w_d7de8194 : (Jvm.Cond.code ({ cls := "VerseCommitteeModel", name := "isUnlike", desc := "(IIII)Z" } : Jvm.MethodName) prog_14_method_92_code (5 : Nat) (Option.some Jvm.ClassFile.FieldType.boolean)) ∈ BIG := big_mem 2261 (by decide +kernel) rfl
theorem w_d7f6c8c9 : (Jvm.Cond.code ({ cls := "VerseCommittee$Laws", name := "speaksOfAny", desc := "(I[I)Z" } : Jvm.MethodName) prog_4_method_21_code (4 : Nat) (Option.some Jvm.ClassFile.FieldType.boolean)) ∈ BIG := big_mem 1243 (by decide +kernel) rfl
theorem w_d81a5080 : (Jvm.Cond.selects "VerseCommitteeModel" ({ cls := "VerseCommitteeModel", name := "apart", desc := "(II)Z" } : Jvm.MethodName) ({ cls := "VerseCommitteeModel", name := "apart", desc := "(II)Z" } : Jvm.MethodName)) ∈ BIG := big_mem 2284 (by decide +kernel) rfl
theorem w_d82a9f7d : (Jvm.Cond.code ({ cls := "VerseCommittee$Verses", name := "missedBits", desc := "(I)I" } : Jvm.MethodName) prog_11_method_10_code (6 : Nat) (Option.some Jvm.ClassFile.FieldType.int)) ∈ BIG := big_mem 1469 (by decide +kernel) rfl
theorem w_d85ba7e5 : (Jvm.Cond.static ({ cls := "VerseCommittee", name := "isRate", desc := "(I)Z" } : Jvm.MethodName)) ∈ BIG := big_mem 687 (by decide +kernel) rfl
theorem w_d866c6fc : (Jvm.Cond.selects "VerseCommitteeModel" ({ cls := "VerseCommitteeModel", name := "worth", desc := "(III)I" } : Jvm.MethodName) ({ cls := "VerseCommitteeModel", name := "worth", desc := "(III)I" } : Jvm.MethodName)) ∈ BIG := big_mem 110 (by decide +kernel) rfl
theorem w_d8727b0f : (Jvm.Cond.instanceMethod ({ cls := "VerseCommittee$Rendering", name := "standsWithout", desc := "(II)Z" } : Jvm.MethodName)) ∈ BIG := big_mem 1193 (by decide +kernel) rfl
theorem w_d8755df9 : (Jvm.Cond.code ({ cls := "VerseCommittee", name := "now", desc := "(I)Z" } : Jvm.MethodName) prog_1_method_2_code (2 : Nat) (Option.some Jvm.ClassFile.FieldType.boolean)) ∈ BIG := big_mem 579 (by decide +kernel) rfl
theorem w_d8871c6a : (Jvm.Cond.methodLink "VerseCommittee" (218 : Nat) ({ cls := "VerseCommittee$People", name := "hasScholar", desc := "(I)Z" } : Jvm.MethodName)) ∈ BIG := big_mem 1005 (by decide +kernel) rfl
theorem w_d8a8ef07 : (Jvm.Cond.fieldLink "VerseCommitteeModel" (135 : Nat) "VerseCommitteeModel" "rTurns" "[I") ∈ BIG := big_mem 1683 (by decide +kernel) rfl
theorem w_d8b77054 : (Jvm.Cond.instanceMethod ({ cls := "VerseCommitteeModel", name := "companyOf", desc := "(I)I" } : Jvm.MethodName)) ∈ BIG := big_mem 2117 (by decide +kernel) rfl
theorem w_d8bb3965 : (Jvm.Cond.code ({ cls := "VerseCommittee$Rendering", name := "keepVote", desc := "(II)V" } : Jvm.MethodName) prog_9_method_15_code (4 : Nat) (Option.none : Option Jvm.ClassFile.FieldType)) ∈ BIG := big_mem 1152 (by decide +kernel) rfl
theorem w_d8bc5196 : (Jvm.Cond.methodLink "VerseCommittee$Parser" (63 : Nat) ({ cls := "VerseCommittee$Parser", name := "readTurning", desc := "(I)Z" } : Jvm.MethodName)) ∈ BIG := big_mem 750 (by decide +kernel) rfl
theorem w_d8c0ea93 : (Jvm.Cond.methodLink "VerseCommitteeModel" (329 : Nat) ({ cls := "VerseCommitteeModel", name := "sums", desc := "(Z)V" } : Jvm.MethodName)) ∈ BIG := big_mem 2076 (by decide +kernel) rfl
theorem w_d8d858bb : (Jvm.Cond.methodLink "VerseCommittee" (270 : Nat) ({ cls := "VerseCommittee$Shelf", name := "fix", desc := "(ILVerseCommittee$Rendering;I)V" } : Jvm.MethodName)) ∈ BIG := big_mem 1153 (by decide +kernel) rfl
theorem w_d8fb525c : (Jvm.Cond.methodLink "VerseCommittee$Findings" (112 : Nat) ({ cls := "VerseCommittee$Reckoner", name := "isInForce", desc := "(I)Z" } : Jvm.MethodName)) ∈ BIG := big_mem 1236 (by decide +kernel) rfl
theorem w_d91a24a1 : (Jvm.Cond.code ({ cls := "VerseCommitteeModel", name := "source", desc := "(III)Z" } : Jvm.MethodName) prog_14_method_11_code (6 : Nat) (Option.some Jvm.ClassFile.FieldType.boolean)) ∈ BIG := big_mem 1935 (by decide +kernel) rfl
theorem w_d94327ee : (Jvm.Cond.methodLink "VerseCommittee$Choices" (125 : Nat) ({ cls := "VerseCommittee$Reckoner", name := "aim", desc := "(II)V" } : Jvm.MethodName)) ∈ BIG := big_mem 1394 (by decide +kernel) rfl
theorem w_d9609d05 : (Jvm.Cond.code ({ cls := "VerseCommitteeModel", name := "mayBe", desc := "(I)Z" } : Jvm.MethodName) prog_14_method_102_code (5 : Nat) (Option.some Jvm.ClassFile.FieldType.boolean)) ∈ BIG := big_mem 2308 (by decide +kernel) rfl
theorem w_d9631ddd : (Jvm.Cond.instanceMethod ({ cls := "VerseCommittee$Reckoner", name := "numberThere", desc := "()I" } : Jvm.MethodName)) ∈ BIG := big_mem 954 (by decide +kernel) rfl
theorem w_d9ac0630 : (Jvm.Cond.code ({ cls := "VerseCommittee$Laws", name := "value", desc := "(I)I" } : Jvm.MethodName) prog_4_method_18_code (2 : Nat) (Option.some Jvm.ClassFile.FieldType.int)) ∈ BIG := big_mem 898 (by decide +kernel) rfl
theorem w_da60932c : (Jvm.Cond.fieldLink "VerseCommittee" (90 : Nat) "VerseCommittee" "planner" "LVerseCommittee$Planner;") ∈ BIG := big_mem 544 (by decide +kernel) rfl
theorem w_dad8f511 : (Jvm.Cond.code ({ cls := "VerseCommittee$Reckoner", name := "firstCopy", desc := "()I" } : Jvm.MethodName) prog_8_method_5_code (1 : Nat) (Option.some Jvm.ClassFile.FieldType.int)) ∈ BIG := big_mem 978 (by decide +kernel) rfl
theorem w_db0cac35 : (Jvm.Cond.static ({ cls := "VerseCommittee$Laws", name := "rulesOf", desc := "(I)I" } : Jvm.MethodName)) ∈ BIG := big_mem 914 (by decide +kernel) rfl
theorem w_db797f16 : (Jvm.Cond.selects "VerseCommittee" ({ cls := "VerseCommittee", name := "judge", desc := "(I)I" } : Jvm.MethodName) ({ cls := "VerseCommittee", name := "judge", desc := "(I)I" } : Jvm.MethodName)) ∈ BIG := big_mem 1557 (by decide +kernel) rfl
theorem w_dbaa4a1b : (Jvm.Cond.selects "VerseCommittee$Words" ({ cls := "VerseCommittee$Words", name := "sizeIn", desc := "(II)I" } : Jvm.MethodName) ({ cls := "VerseCommittee$Words", name := "sizeIn", desc := "(II)I" } : Jvm.MethodName)) ∈ BIG := big_mem 1491 (by decide +kernel) rfl
theorem w_dbf7a773 : (Jvm.Cond.instanceMethod ({ cls := "VerseCommitteeModel", name := "mustBeAlike", desc := "(II)Z" } : Jvm.MethodName)) ∈ BIG := big_mem 2272 (by decide +kernel) rfl
theorem w_dc094fcd : (Jvm.Cond.instanceMethod ({ cls := "VerseCommittee", name := "one", desc := "()I" } : Jvm.MethodName)) ∈ BIG := big_mem 1421 (by decide +kernel) rfl
theorem w_dc17a9d7 : (Jvm.Cond.methodLink "VerseCommittee$Planner" (72 : Nat) ({ cls := "java/lang/Math", name := "max", desc := "(II)I" } : Jvm.MethodName)) ∈ BIG := big_mem 1554 (by decide +kernel) rfl
theorem w_dc1fbd86 : (Jvm.Cond.instanceMethod ({ cls := "VerseCommitteeModel", name := "fixed", desc := "(I)I" } : Jvm.MethodName)) ∈ BIG := big_mem 2207 (by decide +kernel) rfl
theorem w_dc290288 : (Jvm.Cond.instanceMethod ({ cls := "VerseCommittee", name := "tapeHas", desc := "(II)Z" } : Jvm.MethodName)) ∈ BIG := big_mem 612 (by decide +kernel) rfl
theorem w_dc359e1b : (Jvm.Cond.code ({ cls := "VerseCommitteeModel", name := "isGood", desc := "()Z" } : Jvm.MethodName) prog_14_method_28_code (1 : Nat) (Option.some Jvm.ClassFile.FieldType.boolean)) ∈ BIG := big_mem 2002 (by decide +kernel) rfl
theorem w_dc4c3313 : (Jvm.Cond.methodLink "VerseCommittee" (277 : Nat) ({ cls := "VerseCommittee$Rendering", name := "stateNumber", desc := "()I" } : Jvm.MethodName)) ∈ BIG := big_mem 1171 (by decide +kernel) rfl
theorem w_dc76e110 : (Jvm.Cond.code ({ cls := "VerseCommittee$Words", name := "vowelRows", desc := "(I)I" } : Jvm.MethodName) prog_12_method_8_code (7 : Nat) (Option.some Jvm.ClassFile.FieldType.int)) ∈ BIG := big_mem 675 (by decide +kernel) rfl
theorem w_dcccdb64 : (Jvm.Cond.selects "VerseCommitteeModel" ({ cls := "VerseCommitteeModel", name := "check", desc := "(I)I" } : Jvm.MethodName) ({ cls := "VerseCommitteeModel", name := "check", desc := "(I)I" } : Jvm.MethodName)) ∈ BIG := big_mem 2381 (by decide +kernel) rfl
theorem w_dcd5d65b : (Jvm.Cond.fieldLink "VerseCommittee$Findings" (23 : Nat) "VerseCommittee$Findings" "placeToken" "[I") ∈ BIG := big_mem 412 (by decide +kernel) rfl
theorem w_dd11a528 : (Jvm.Cond.instanceMethod ({ cls := "VerseCommittee$Shelf", name := "withdraw", desc := "(II)I" } : Jvm.MethodName)) ∈ BIG := big_mem 1184 (by decide +kernel) rfl
theorem w_dd11f97f : (Jvm.Cond.instanceMethod ({ cls := "VerseCommittee$Parser", name := "<init>", desc := "(LVerseCommittee$Laws;)V" } : Jvm.MethodName)) ∈ BIG := big_mem 322 (by decide +kernel) rfl
theorem w_dd4b883d : (Jvm.Cond.selects "VerseCommittee$Planner" ({ cls := "VerseCommittee$Planner", name := "daysOfCentre", desc := "()I" } : Jvm.MethodName) ({ cls := "VerseCommittee$Planner", name := "daysOfCentre", desc := "()I" } : Jvm.MethodName)) ∈ BIG := big_mem 67 (by decide +kernel) rfl
theorem w_dd4f08ab : (Jvm.Cond.methodLink "VerseCommittee$Words" (3 : Nat) ({ cls := "java/lang/Object", name := "<init>", desc := "()V" } : Jvm.MethodName)) ∈ BIG := big_mem 177 (by decide +kernel) rfl
theorem w_dd716138 : (Jvm.Cond.code ({ cls := "VerseCommitteeModel", name := "top", desc := "()I" } : Jvm.MethodName) prog_14_method_30_code (1 : Nat) (Option.some Jvm.ClassFile.FieldType.int)) ∈ BIG := big_mem 2083 (by decide +kernel) rfl
theorem w_dd7e59c2 : (Jvm.Cond.fieldLink "VerseCommitteeModel" (545 : Nat) "VerseCommitteeModel" "openBooks" "I") ∈ BIG := big_mem 1715 (by decide +kernel) rfl
theorem w_dda160bb : (Jvm.Cond.instanceMethod ({ cls := "VerseCommittee$Reckoner", name := "sourceSize", desc := "()I" } : Jvm.MethodName)) ∈ BIG := big_mem 980 (by decide +kernel) rfl
theorem w_de03082f : (Jvm.Cond.instanceMethod ({ cls := "VerseCommittee$Planner", name := "giveTo", desc := "(III)V" } : Jvm.MethodName)) ∈ BIG := big_mem 1552 (by decide +kernel) rfl
theorem w_de0d1907 : (Jvm.Cond.selects "VerseCommittee$Parser" ({ cls := "VerseCommittee$Parser", name := "isTermSign", desc := "()Z" } : Jvm.MethodName) ({ cls := "VerseCommittee$Parser", name := "isTermSign", desc := "()Z" } : Jvm.MethodName)) ∈ BIG := big_mem 21 (by decide +kernel) rfl
theorem w_de3a11cc : (Jvm.Cond.fieldLink "VerseCommittee$Findings" (13 : Nat) "VerseCommittee$Findings" "found" "[I") ∈ BIG := big_mem 409 (by decide +kernel) rfl
theorem w_de54c247 : (Jvm.Cond.instanceMethod ({ cls := "VerseCommittee$Shelf", name := "isFull", desc := "()Z" } : Jvm.MethodName)) ∈ BIG := big_mem 1014 (by decide +kernel) rfl
theorem w_de5abb65 : (Jvm.Cond.selects "VerseCommittee$Rendering" ({ cls := "VerseCommittee$Rendering", name := "isUnderVote", desc := "()Z" } : Jvm.MethodName) ({ cls := "VerseCommittee$Rendering", name := "isUnderVote", desc := "()Z" } : Jvm.MethodName)) ∈ BIG := big_mem 1090 (by decide +kernel) rfl
theorem w_de5fafc8 : (Jvm.Cond.instanceMethod ({ cls := "VerseCommittee$Laws", name := "hasClause", desc := "(II)Z" } : Jvm.MethodName)) ∈ BIG := big_mem 835 (by decide +kernel) rfl
theorem w_de959cdc : (Jvm.Cond.code ({ cls := "VerseCommittee$Reckoner", name := "companyThere", desc := "()I" } : Jvm.MethodName) prog_8_method_4_code (1 : Nat) (Option.some Jvm.ClassFile.FieldType.int)) ∈ BIG := big_mem 986 (by decide +kernel) rfl
theorem w_de9a93ad : (Jvm.Cond.code ({ cls := "VerseCommittee$Rendering", name := "turnsLike", desc := "(ILVerseCommittee$Rendering;I)Z" } : Jvm.MethodName) prog_9_method_23_code (6 : Nat) (Option.some Jvm.ClassFile.FieldType.boolean)) ∈ BIG := big_mem 1321 (by decide +kernel) rfl
theorem w_debc6932 : (Jvm.Cond.methodLink "VerseCommittee" (322 : Nat) ({ cls := "VerseCommittee$Choices", name := "reckon", desc := "(I)V" } : Jvm.MethodName)) ∈ BIG := big_mem 1373 (by decide +kernel) rfl
theorem w_decef28a : (Jvm.Cond.code ({ cls := "VerseCommitteeModel", name := "voids", desc := "(I)I" } : Jvm.MethodName) prog_14_method_77_code (4 : Nat) (Option.some Jvm.ClassFile.FieldType.int)) ∈ BIG := big_mem 2193 (by decide +kernel) rfl
theorem w_ded1ca4d : (Jvm.Cond.instanceMethod ({ cls := "VerseCommittee$Laws", name := "size", desc := "()I" } : Jvm.MethodName)) ∈ BIG := big_mem 863 (by decide +kernel) rfl
theorem w_dedb94fa : (Jvm.Cond.methodLink "VerseCommittee$Choices" (63 : Nat) ({ cls := "VerseCommittee$Choices", name := "arePart", desc := "(II)Z" } : Jvm.MethodName)) ∈ BIG := big_mem 1361 (by decide +kernel) rfl
theorem w_df2fc738 : (Jvm.Cond.code ({ cls := "VerseCommittee$Shelf", name := "fix", desc := "(ILVerseCommittee$Rendering;I)V" } : Jvm.MethodName) prog_10_method_12_code (5 : Nat) (Option.none : Option Jvm.ClassFile.FieldType)) ∈ BIG := big_mem 1156 (by decide +kernel) rfl
theorem w_df3094b6 : (Jvm.Cond.fieldLink "VerseCommittee$Reckoner" (34 : Nat) "VerseCommittee$Reckoner" "day" "I") ∈ BIG := big_mem 360 (by decide +kernel) rfl
theorem w_df7873e0 : (Jvm.Cond.methodLink "VerseCommitteeLaw" (156 : Nat) ({ cls := "VerseCommitteeModel", name := "changes", desc := "(III)I" } : Jvm.MethodName)) ∈ BIG := big_mem 2340 (by decide +kernel) rfl
theorem w_df985e38 : (Jvm.Cond.code ({ cls := "VerseCommittee$Words", name := "isThere", desc := "([II)Z" } : Jvm.MethodName) prog_12_method_12_code (4 : Nat) (Option.some Jvm.ClassFile.FieldType.boolean)) ∈ BIG := big_mem 639 (by decide +kernel) rfl
theorem w_dfa839cb : (Jvm.Cond.selects "VerseCommittee" ({ cls := "VerseCommittee", name := "feed", desc := "(IIIII)I" } : Jvm.MethodName) ({ cls := "VerseCommittee", name := "feed", desc := "(IIIII)I" } : Jvm.MethodName)) ∈ BIG := big_mem 585 (by decide +kernel) rfl
theorem w_dfaf2236 : (Jvm.Cond.selects "VerseCommittee$Parser" ({ cls := "VerseCommittee$Parser", name := "readFactor", desc := "(I)Z" } : Jvm.MethodName) ({ cls := "VerseCommittee$Parser", name := "readFactor", desc := "(I)Z" } : Jvm.MethodName)) ∈ BIG := big_mem 20 (by decide +kernel) rfl
theorem w_dfc14158 : (Jvm.Cond.methodLink "VerseCommittee$Parser" (41 : Nat) ({ cls := "VerseCommittee$Parser", name := "pass", desc := "(I)Z" } : Jvm.MethodName)) ∈ BIG := big_mem 761 (by decide +kernel) rfl
theorem w_e018eca4 : (Jvm.Cond.methodLink "VerseCommittee$Words" (37 : Nat) ({ cls := "VerseCommittee$Words", name := "formIn", desc := "(II)I" } : Jvm.MethodName)) ∈ BIG := big_mem 1493 (by decide +kernel) rfl
theorem w_e0a6646c : (Jvm.Cond.code ({ cls := "VerseCommittee", name := "rules", desc := "(IIII)I" } : Jvm.MethodName) prog_1_method_12_code (6 : Nat) (Option.some Jvm.ClassFile.FieldType.int)) ∈ BIG := big_mem 717 (by decide +kernel) rfl
theorem w_e0dbd922 : (Jvm.Cond.instanceMethod ({ cls := "VerseCommitteeModel", name := "sums", desc := "(Z)V" } : Jvm.MethodName)) ∈ BIG := big_mem 2078 (by decide +kernel) rfl
theorem w_e127f6cd : (Jvm.Cond.code ({ cls := "VerseCommittee", name := "source", desc := "(III)Z" } : Jvm.MethodName) prog_1_method_5_code (4 : Nat) (Option.some Jvm.ClassFile.FieldType.boolean)) ∈ BIG := big_mem 602 (by decide +kernel) rfl
theorem w_e15c20c7 : (Jvm.Cond.selects "VerseCommittee$Shelf" ({ cls := "VerseCommittee$Shelf", name := "isFull", desc := "()Z" } : Jvm.MethodName) ({ cls := "VerseCommittee$Shelf", name := "isFull", desc := "()Z" } : Jvm.MethodName)) ∈ BIG := big_mem 1015 (by decide +kernel) rfl
theorem w_e1bd2cd9 : (Jvm.Cond.selects "VerseCommittee$Words" ({ cls := "VerseCommittee$Words", name := "formIn", desc := "(II)I" } : Jvm.MethodName) ({ cls := "VerseCommittee$Words", name := "formIn", desc := "(II)I" } : Jvm.MethodName)) ∈ BIG := big_mem 64 (by decide +kernel) rfl
theorem w_e1d13aa8 : (Jvm.Cond.methodLink "VerseCommittee$Choices" (139 : Nat) ({ cls := "VerseCommittee$Laws", name := "clauseOf", desc := "(II)I" } : Jvm.MethodName)) ∈ BIG := big_mem 1398 (by decide +kernel) rfl
theorem w_e21ea44b : (Jvm.Cond.code ({ cls := "VerseCommittee$Verses", name := "rowOf", desc := "(II)[I" } : Jvm.MethodName) prog_11_method_8_code (4 : Nat) (Option.some (Jvm.ClassFile.FieldType.array Jvm.ClassFile.FieldType.int))) ∈ BIG := big_mem 902 (by decide +kernel) rfl
theorem w_e27243d3 : (Jvm.Cond.code ({ cls := "VerseCommitteeModel", name := "bestRow", desc := "()I" } : Jvm.MethodName) prog_14_method_119_code (5 : Nat) (Option.some Jvm.ClassFile.FieldType.int)) ∈ BIG := big_mem 2363 (by decide +kernel) rfl
theorem w_e2867eb0 : (Jvm.Cond.selects "VerseCommitteeModel" ({ cls := "VerseCommitteeModel", name := "neededAt", desc := "(III)I" } : Jvm.MethodName) ({ cls := "VerseCommitteeModel", name := "neededAt", desc := "(III)I" } : Jvm.MethodName)) ∈ BIG := big_mem 103 (by decide +kernel) rfl
theorem w_e2a09206 : (Jvm.Cond.code ({ cls := "VerseCommittee$Laws", name := "rulesOf", desc := "(I)I" } : Jvm.MethodName) prog_4_method_5_code (1 : Nat) (Option.some Jvm.ClassFile.FieldType.int)) ∈ BIG := big_mem 915 (by decide +kernel) rfl
theorem w_e2b1319a : (Jvm.Cond.selects "VerseCommittee$Rendering" ({ cls := "VerseCommittee$Rendering", name := "wordRow", desc := "()[I" } : Jvm.MethodName) ({ cls := "VerseCommittee$Rendering", name := "wordRow", desc := "()[I" } : Jvm.MethodName)) ∈ BIG := big_mem 1482 (by decide +kernel) rfl
theorem w_e2b9b88a : (Jvm.Cond.selects "VerseCommitteeModel" ({ cls := "VerseCommitteeModel", name := "tells", desc := "(II)V" } : Jvm.MethodName) ({ cls := "VerseCommitteeModel", name := "tells", desc := "(II)V" } : Jvm.MethodName)) ∈ BIG := big_mem 118 (by decide +kernel) rfl
theorem w_e2c82566 : (Jvm.Cond.fieldLink "VerseCommitteeModel" (41 : Nat) "VerseCommitteeModel" "isCentre" "[Z") ∈ BIG := big_mem 1643 (by decide +kernel) rfl
theorem w_e2da76cf : (Jvm.Cond.selects "VerseCommittee$Choices" ({ cls := "VerseCommittee$Choices", name := "chosen", desc := "(I)I" } : Jvm.MethodName) ({ cls := "VerseCommittee$Choices", name := "chosen", desc := "(I)I" } : Jvm.MethodName)) ∈ BIG := big_mem 58 (by decide +kernel) rfl
theorem w_e2e7b3e8 : (Jvm.Cond.methodLink "VerseCommitteeModel" (249 : Nat) ({ cls := "VerseCommitteeModel", name := "isVowel", desc := "(I)Z" } : Jvm.MethodName)) ∈ BIG := big_mem 1976 (by decide +kernel) rfl
theorem w_e301bcc7 : (Jvm.Cond.instanceMethod ({ cls := "VerseCommittee", name := "putFour", desc := "(I)V" } : Jvm.MethodName)) ∈ BIG := big_mem 589 (by decide +kernel) rfl
theorem w_e34a0fc3 : (Jvm.Cond.code ({ cls := "VerseCommittee$Shelf", name := "inState", desc := "(I)I" } : Jvm.MethodName) prog_10_method_10_code (5 : Nat) (Option.some Jvm.ClassFile.FieldType.int)) ∈ BIG := big_mem 1617 (by decide +kernel) rfl
theorem w_e3b1c5ae : (Jvm.Cond.selects "VerseCommittee$Findings" ({ cls := "VerseCommittee$Findings", name := "gatherHeld", desc := "(II[I)V" } : Jvm.MethodName) ({ cls := "VerseCommittee$Findings", name := "gatherHeld", desc := "(II[I)V" } : Jvm.MethodName)) ∈ BIG := big_mem 43 (by decide +kernel) rfl
theorem w_e3c45117 : (Jvm.Cond.fieldLink "VerseCommitteeModel" (69 : Nat) "VerseCommitteeModel" "first" "[I") ∈ BIG := big_mem 1652 (by decide +kernel) rfl
theorem w_e3f72865 : (Jvm.Cond.selects "VerseCommittee$Parser" ({ cls := "VerseCommittee$Parser", name := "read", desc := "([II)I" } : Jvm.MethodName) ({ cls := "VerseCommittee$Parser", name := "read", desc := "([II)I" } : Jvm.MethodName)) ∈ BIG := big_mem 724 (by decide +kernel) rfl
theorem w_e3f8e22a : (Jvm.Cond.fieldLink "VerseCommitteeModel" (183 : Nat) "VerseCommitteeModel" "isApart" "[Z") ∈ BIG := big_mem 1708 (by decide +kernel) rfl
theorem w_e42eab56 : (Jvm.Cond.initialized "VerseCommittee$Planner") ∈ BIG := big_mem 159 (by decide +kernel) rfl
theorem w_e431ba25 : (Jvm.Cond.methodLink "VerseCommittee" (328 : Nat) ({ cls := "VerseCommittee$Choices", name := "leastPriced", desc := "()I" } : Jvm.MethodName)) ∈ BIG := big_mem 1424 (by decide +kernel) rfl
theorem w_e443e065 : (Jvm.Cond.methodLink "VerseCommitteeLaw" (143 : Nat) ({ cls := "VerseCommitteeModel", name := "line", desc := "(I)I" } : Jvm.MethodName)) ∈ BIG := big_mem 2321 (by decide +kernel) rfl
theorem w_e47e9ced : (Jvm.Cond.instanceMethod ({ cls := "VerseCommitteeModel", name := "count", desc := "(I)I" } : Jvm.MethodName)) ∈ BIG := big_mem 2396 (by decide +kernel) rfl
theorem w_e495f9ca : (Jvm.Cond.code ({ cls := "VerseCommittee", name := "breaksMeasure", desc := "(LVerseCommittee$Rendering;I)Z" } : Jvm.MethodName) prog_1_method_53_code (5 : Nat) (Option.some Jvm.ClassFile.FieldType.boolean)) ∈ BIG := big_mem 1451 (by decide +kernel) rfl
theorem w_e4988b7f : (Jvm.Cond.code ({ cls := "VerseCommittee$Verses", name := "<init>", desc := "()V" } : Jvm.MethodName) prog_11_method_1_code (1 : Nat) (Option.none : Option Jvm.ClassFile.FieldType)) ∈ BIG := big_mem 194 (by decide +kernel) rfl
theorem w_e4f3a393 : (Jvm.Cond.code ({ cls := "VerseCommitteeModel", name := "spell", desc := "(III)Z" } : Jvm.MethodName) prog_14_method_18_code (4 : Nat) (Option.some Jvm.ClassFile.FieldType.boolean)) ∈ BIG := big_mem 1963 (by decide +kernel) rfl
theorem w_e5218748 : (Jvm.Cond.selects "VerseCommittee" ({ cls := "VerseCommittee", name := "company", desc := "(II)I" } : Jvm.MethodName) ({ cls := "VerseCommittee", name := "company", desc := "(II)I" } : Jvm.MethodName)) ∈ BIG := big_mem 684 (by decide +kernel) rfl
theorem w_e59d070c : (Jvm.Cond.fieldLink "VerseCommittee$Planner" (20 : Nat) "VerseCommittee$Planner" "loads" "[I") ∈ BIG := big_mem 507 (by decide +kernel) rfl
theorem w_e5ca493a : (Jvm.Cond.selects "VerseCommittee" ({ cls := "VerseCommittee", name := "breach", desc := "(III)I" } : Jvm.MethodName) ({ cls := "VerseCommittee", name := "breach", desc := "(III)I" } : Jvm.MethodName)) ∈ BIG := big_mem 1269 (by decide +kernel) rfl
theorem w_e5cadf7f : (Jvm.Cond.code ({ cls := "VerseCommittee", name := "close", desc := "(I)I" } : Jvm.MethodName) prog_1_method_19_code (7 : Nat) (Option.some Jvm.ClassFile.FieldType.int)) ∈ BIG := big_mem 1118 (by decide +kernel) rfl
theorem w_e6166115 : (Jvm.Cond.selects "VerseCommittee" ({ cls := "VerseCommittee", name := "spell", desc := "(III)Z" } : Jvm.MethodName) ({ cls := "VerseCommittee", name := "spell", desc := "(III)Z" } : Jvm.MethodName)) ∈ BIG := big_mem 653 (by decide +kernel) rfl
theorem w_e644f2ca : (Jvm.Cond.selects "VerseCommittee$Rendering" ({ cls := "VerseCommittee$Rendering", name := "tell", desc := "(I)I" } : Jvm.MethodName) ({ cls := "VerseCommittee$Rendering", name := "tell", desc := "(I)I" } : Jvm.MethodName)) ∈ BIG := big_mem 1577 (by decide +kernel) rfl
theorem w_e650a999 : (Jvm.Cond.fieldLink "VerseCommittee$Laws" (17 : Nat) "VerseCommittee$Laws" "companies" "[I") ∈ BIG := big_mem 256 (by decide +kernel) rfl
theorem w_e6823909 : (Jvm.Cond.methodLink "VerseCommittee$Choices" (153 : Nat) ({ cls := "VerseCommittee$Reckoner", name := "verdict", desc := "(I)I" } : Jvm.MethodName)) ∈ BIG := big_mem 1402 (by decide +kernel) rfl
theorem w_e6c69430 : (Jvm.Cond.methodLink "VerseCommittee$Laws" (3 : Nat) ({ cls := "java/lang/Object", name := "<init>", desc := "()V" } : Jvm.MethodName)) ∈ BIG := big_mem 253 (by decide +kernel) rfl
theorem w_e6f2fa11 : (Jvm.Cond.methodLink "VerseCommittee$Findings" (153 : Nat) ({ cls := "VerseCommittee$Findings", name := "shareClause", desc := "(II)Z" } : Jvm.MethodName)) ∈ BIG := big_mem 1314 (by decide +kernel) rfl
theorem w_e6f41679 : (Jvm.Cond.code ({ cls := "VerseCommittee$People", name := "centreRate", desc := "()I" } : Jvm.MethodName) prog_6_method_9_code (1 : Nat) (Option.some Jvm.ClassFile.FieldType.int)) ∈ BIG := big_mem 1529 (by decide +kernel) rfl
theorem w_e710e1eb : (Jvm.Cond.code ({ cls := "VerseCommitteeModel", name := "fixedVerse", desc := "(I)I" } : Jvm.MethodName) prog_14_method_122_code (4 : Nat) (Option.some Jvm.ClassFile.FieldType.int)) ∈ BIG := big_mem 2386 (by decide +kernel) rfl
theorem w_e71b83b5 : (Jvm.Cond.methodLink "VerseCommittee" (153 : Nat) ({ cls := "VerseCommittee$People", name := "setCentreRate", desc := "(I)V" } : Jvm.MethodName)) ∈ BIG := big_mem 697 (by decide +kernel) rfl
theorem w_e72fad65 : (Jvm.Cond.methodLink "VerseCommittee$Findings" (85 : Nat) ({ cls := "VerseCommittee$Reckoner", name := "aim", desc := "(II)V" } : Jvm.MethodName)) ∈ BIG := big_mem 1234 (by decide +kernel) rfl
theorem w_e73a2ecf : (Jvm.Cond.code ({ cls := "VerseCommittee", name := "asks", desc := "(III)I" } : Jvm.MethodName) prog_1_method_14_code (4 : Nat) (Option.some Jvm.ClassFile.FieldType.int)) ∈ BIG := big_mem 966 (by decide +kernel) rfl
theorem w_e749e7c8 : (Jvm.Cond.code ({ cls := "VerseCommitteeModel", name := "placeOf", desc := "(I)I" } : Jvm.MethodName) prog_14_method_95_code (3 : Nat) (Option.some Jvm.ClassFile.FieldType.int)) ∈ BIG := big_mem 2281 (by decide +kernel) rfl
theorem w_e7696115 : (Jvm.Cond.selects "VerseCommittee$Shelf" ({ cls := "VerseCommittee$Shelf", name := "size", desc := "()I" } : Jvm.MethodName) ({ cls := "VerseCommittee$Shelf", name := "size", desc := "()I" } : Jvm.MethodName)) ∈ BIG := big_mem 1604 (by decide +kernel) rfl
theorem w_e7a0ab66 : (Jvm.Cond.instanceMethod ({ cls := "VerseCommittee$Parser", name := "readFactor", desc := "(I)Z" } : Jvm.MethodName)) ∈ BIG := big_mem 795 (by decide +kernel) rfl
theorem w_e7c01bf3 : (Jvm.Cond.selects "VerseCommittee$Shelf" ({ cls := "VerseCommittee$Shelf", name := "inState", desc := "(I)I" } : Jvm.MethodName) ({ cls := "VerseCommittee$Shelf", name := "inState", desc := "(I)I" } : Jvm.MethodName)) ∈ BIG := big_mem 1616 (by decide +kernel) rfl
theorem w_e7d78dfd : (Jvm.Cond.methodLink "VerseCommittee$Shelf" (56 : Nat) ({ cls := "VerseCommittee$Rendering", name := "daysSinceFixed", desc := "(I)I" } : Jvm.MethodName)) ∈ BIG := big_mem 1145 (by decide +kernel) rfl
theorem w_e836271d : (Jvm.Cond.code ({ cls := "VerseCommitteeModel", name := "isInForce", desc := "(III)Z" } : Jvm.MethodName) prog_14_method_52_code (4 : Nat) (Option.some Jvm.ClassFile.FieldType.boolean)) ∈ BIG := big_mem 2114 (by decide +kernel) rfl
theorem w_e879aec4 : (Jvm.Cond.selects "VerseCommitteeModel" ({ cls := "VerseCommitteeModel", name := "mayBe", desc := "(I)Z" } : Jvm.MethodName) ({ cls := "VerseCommitteeModel", name := "mayBe", desc := "(I)Z" } : Jvm.MethodName)) ∈ BIG := big_mem 137 (by decide +kernel) rfl
theorem w_e87c452e : (Jvm.Cond.selects "VerseCommittee" ({ cls := "VerseCommittee", name := "asks", desc := "(III)I" } : Jvm.MethodName) ({ cls := "VerseCommittee", name := "asks", desc := "(III)I" } : Jvm.MethodName)) ∈ BIG := big_mem 965 (by decide +kernel) rfl
theorem w_e8af895c : (Jvm.Cond.code ({ cls := "VerseCommittee$Reckoner", name := "isInForce", desc := "(I)Z" } : Jvm.MethodName) prog_8_method_3_code (2 : Nat) (Option.some Jvm.ClassFile.FieldType.boolean)) ∈ BIG := big_mem 881 (by decide +kernel) rfl
theorem w_e8e5b582 : (Jvm.Cond.code ({ cls := "VerseCommitteeModel", name := "isAsked", desc := "(III)Z" } : Jvm.MethodName) prog_14_method_86_code (4 : Nat) (Option.some Jvm.ClassFile.FieldType.boolean)) ∈ BIG := big_mem 2249 (by decide +kernel) rfl
theorem w_e9068c49 : (Jvm.Cond.fieldLink "VerseCommittee$Parser" (32 : Nat) "VerseCommittee$Parser" "fault" "I") ∈ BIG := big_mem 331 (by decide +kernel) rfl
theorem w_e94b290e : (Jvm.Cond.instanceMethod ({ cls := "VerseCommittee$Laws", name := "putClause", desc := "(III)V" } : Jvm.MethodName)) ∈ BIG := big_mem 739 (by decide +kernel) rfl
theorem w_e94c2fe4 : (Jvm.Cond.fieldLink "VerseCommitteeModel" (333 : Nat) "VerseCommitteeModel" "isBehind" "Z") ∈ BIG := big_mem 1667 (by decide +kernel) rfl
theorem w_e95a7bf5 : (Jvm.Cond.fieldLink "VerseCommitteeModel" (472 : Nat) "VerseCommitteeModel" "otherClause" "I") ∈ BIG := big_mem 1698 (by decide +kernel) rfl
theorem w_e9cb002c : (Jvm.Cond.methodLink "VerseCommittee$Words" (47 : Nat) ({ cls := "java/lang/Math", name := "max", desc := "(II)I" } : Jvm.MethodName)) ∈ BIG := big_mem 679 (by decide +kernel) rfl
theorem w_e9e13901 : (Jvm.Cond.initialized "VerseCommittee$Shelf") ∈ BIG := big_mem 154 (by decide +kernel) rfl
theorem w_ea2a0230 : (Jvm.Cond.methodLink "VerseCommitteeModel" (349 : Nat) ({ cls := "VerseCommitteeModel", name := "joins", desc := "(Z)V" } : Jvm.MethodName)) ∈ BIG := big_mem 2095 (by decide +kernel) rfl
theorem w_ea336212 : (Jvm.Cond.methodLink "VerseCommitteeLaw" (84 : Nat) ({ cls := "VerseCommitteeModel", name := "render", desc := "(III)I" } : Jvm.MethodName)) ∈ BIG := big_mem 2158 (by decide +kernel) rfl
theorem w_ea42e930 : (Jvm.Cond.code ({ cls := "VerseCommittee$Parser", name := "readTail", desc := "(II)Z" } : Jvm.MethodName) prog_5_method_10_code (3 : Nat) (Option.some Jvm.ClassFile.FieldType.boolean)) ∈ BIG := big_mem 768 (by decide +kernel) rfl
theorem w_ea55c330 : (Jvm.Cond.methodLink "VerseCommitteeLaw" (102 : Nat) ({ cls := "VerseCommittee", name := "fixedOn", desc := "(II)I" } : Jvm.MethodName)) ∈ BIG := big_mem 1205 (by decide +kernel) rfl
theorem w_ea5cb103 : (Jvm.Cond.methodLink "VerseCommittee$Findings" (136 : Nat) ({ cls := "VerseCommittee$Verses", name := "size", desc := "()I" } : Jvm.MethodName)) ∈ BIG := big_mem 1297 (by decide +kernel) rfl
theorem w_eadf4d4c : (Jvm.Cond.fieldLink "VerseCommitteeModel" (78 : Nat) "VerseCommitteeModel" "codeFrom" "[I") ∈ BIG := big_mem 1655 (by decide +kernel) rfl
theorem w_eafe2bfa : (Jvm.Cond.code ({ cls := "VerseCommittee$Rendering", name := "wordAt", desc := "(I)I" } : Jvm.MethodName) prog_9_method_8_code (2 : Nat) (Option.some Jvm.ClassFile.FieldType.int)) ∈ BIG := big_mem 1333 (by decide +kernel) rfl
theorem w_eb0e6bd5 : (Jvm.Cond.code ({ cls := "VerseCommitteeModel", name := "look", desc := "(II)I" } : Jvm.MethodName) prog_14_method_125_code (3 : Nat) (Option.some Jvm.ClassFile.FieldType.int)) ∈ BIG := big_mem 2390 (by decide +kernel) rfl
theorem w_eb5cba1c : (Jvm.Cond.code ({ cls := "VerseCommittee$Rendering", name := "daysSinceFixed", desc := "(I)I" } : Jvm.MethodName) prog_9_method_10_code (2 : Nat) (Option.some Jvm.ClassFile.FieldType.int)) ∈ BIG := big_mem 1148 (by decide +kernel) rfl
theorem w_eb8c753c : (Jvm.Cond.methodLink "VerseCommittee$Shelf" (69 : Nat) ({ cls := "VerseCommittee$Shelf", name := "setFixed", desc := "(III)V" } : Jvm.MethodName)) ∈ BIG := big_mem 1166 (by decide +kernel) rfl
theorem w_ebb8b74f : (Jvm.Cond.methodLink "VerseCommitteeModel" (388 : Nat) ({ cls := "VerseCommitteeModel", name := "lastOf", desc := "(IIII)I" } : Jvm.MethodName)) ∈ BIG := big_mem 2107 (by decide +kernel) rfl
theorem w_ebb95d67 : (Jvm.Cond.selects "VerseCommittee$Choices" ({ cls := "VerseCommittee$Choices", name := "priceOfRow", desc := "()I" } : Jvm.MethodName) ({ cls := "VerseCommittee$Choices", name := "priceOfRow", desc := "()I" } : Jvm.MethodName)) ∈ BIG := big_mem 1410 (by decide +kernel) rfl
theorem w_ebc5bfb8 : (Jvm.Cond.selects "VerseCommittee" ({ cls := "VerseCommittee", name := "tapeHasLetters", desc := "(I)Z" } : Jvm.MethodName) ({ cls := "VerseCommittee", name := "tapeHasLetters", desc := "(I)Z" } : Jvm.MethodName)) ∈ BIG := big_mem 3 (by decide +kernel) rfl
theorem w_ebcc6d96 : (Jvm.Cond.methodLink "VerseCommitteeLaw" (180 : Nat) ({ cls := "VerseCommitteeModel", name := "count", desc := "(I)I" } : Jvm.MethodName)) ∈ BIG := big_mem 2395 (by decide +kernel) rfl
theorem w_ebce24f3 : (Jvm.Cond.methodLink "VerseCommittee$Parser" (66 : Nat) ({ cls := "VerseCommittee$Parser", name := "readTail", desc := "(II)Z" } : Jvm.MethodName)) ∈ BIG := big_mem 765 (by decide +kernel) rfl
theorem w_ebe778c0 : (Jvm.Cond.methodLink "VerseCommitteeLaw" (68 : Nat) ({ cls := "VerseCommittee", name := "asks", desc := "(III)I" } : Jvm.MethodName)) ∈ BIG := big_mem 963 (by decide +kernel) rfl
theorem w_ebf44de7 : (Jvm.Cond.code ({ cls := "VerseCommitteeModel", name := "company", desc := "(II)I" } : Jvm.MethodName) prog_14_method_22_code (3 : Nat) (Option.some Jvm.ClassFile.FieldType.int)) ∈ BIG := big_mem 1982 (by decide +kernel) rfl
theorem w_ebf6934e : (Jvm.Cond.methodLink "VerseCommittee$Shelf" (62 : Nat) ({ cls := "VerseCommittee$Rendering", name := "enterState", desc := "(I)V" } : Jvm.MethodName)) ∈ BIG := big_mem 1158 (by decide +kernel) rfl
theorem w_ec1201ac : (Jvm.Cond.instanceMethod ({ cls := "VerseCommittee$Planner", name := "answer", desc := "(I)I" } : Jvm.MethodName)) ∈ BIG := big_mem 1511 (by decide +kernel) rfl
theorem w_ec5eb6ed : (Jvm.Cond.selects "VerseCommittee$Parser" ({ cls := "VerseCommittee$Parser", name := "fail", desc := "(II)Z" } : Jvm.MethodName) ({ cls := "VerseCommittee$Parser", name := "fail", desc := "(II)Z" } : Jvm.MethodName)) ∈ BIG := big_mem 9 (by decide +kernel) rfl
theorem w_ec815cd7 : (Jvm.Cond.instanceMethod ({ cls := "VerseCommittee", name := "option", desc := "(II)Z" } : Jvm.MethodName)) ∈ BIG := big_mem 1335 (by decide +kernel) rfl
theorem w_ecc841f0 : (Jvm.Cond.code ({ cls := "VerseCommittee$Choices", name := "readRow", desc := "(I)Z" } : Jvm.MethodName) prog_2_method_10_code (4 : Nat) (Option.some Jvm.ClassFile.FieldType.boolean)) ∈ BIG := big_mem 1372 (by decide +kernel) rfl
theorem w_ecc91a3d : (Jvm.Cond.methodLink "VerseCommittee" (292 : Nat) ({ cls := "VerseCommittee$Shelf", name := "fixedThen", desc := "(II)I" } : Jvm.MethodName)) ∈ BIG := big_mem 1213 (by decide +kernel) rfl
theorem w_ed119f70 : (Jvm.Cond.code ({ cls := "VerseCommittee", name := "voids", desc := "(I)I" } : Jvm.MethodName) prog_1_method_20_code (2 : Nat) (Option.some Jvm.ClassFile.FieldType.int)) ∈ BIG := big_mem 1178 (by decide +kernel) rfl
theorem w_ed26212e : (Jvm.Cond.selects "VerseCommittee" ({ cls := "VerseCommittee", name := "verse", desc := "(II)I" } : Jvm.MethodName) ({ cls := "VerseCommittee", name := "verse", desc := "(II)I" } : Jvm.MethodName)) ∈ BIG := big_mem 593 (by decide +kernel) rfl
theorem w_ed548426 : (Jvm.Cond.methodLink "VerseCommittee" (407 : Nat) ({ cls := "VerseCommittee$People", name := "voters", desc := "(II)I" } : Jvm.MethodName)) ∈ BIG := big_mem 1106 (by decide +kernel) rfl
theorem w_ed5b81ca : (Jvm.Cond.selects "VerseCommittee$Rendering" ({ cls := "VerseCommittee$Rendering", name := "wouldGoOn", desc := "(II)Z" } : Jvm.MethodName) ({ cls := "VerseCommittee$Rendering", name := "wouldGoOn", desc := "(II)Z" } : Jvm.MethodName)) ∈ BIG := big_mem 1121 (by decide +kernel) rfl
theorem w_ed8fc5d0 : (Jvm.Cond.fieldLink "VerseCommittee$Shelf" (27 : Nat) "VerseCommittee$Shelf" "turnRendering" "[I") ∈ BIG := big_mem 301 (by decide +kernel) rfl
theorem w_edaf53b0 : (Jvm.Cond.selects "VerseCommittee$Rendering" ({ cls := "VerseCommittee$Rendering", name := "slots", desc := "()I" } : Jvm.MethodName) ({ cls := "VerseCommittee$Rendering", name := "slots", desc := "()I" } : Jvm.MethodName)) ∈ BIG := big_mem 1328 (by decide +kernel) rfl
theorem w_eddb54f8 : (Jvm.Cond.code ({ cls := "VerseCommittee$People", name := "hasBook", desc := "(II)Z" } : Jvm.MethodName) prog_6_method_12_code (3 : Nat) (Option.some Jvm.ClassFile.FieldType.boolean)) ∈ BIG := big_mem 861 (by decide +kernel) rfl
theorem w_edde2bce : (Jvm.Cond.code ({ cls := "VerseCommitteeModel", name := "copyOf", desc := "(II)I" } : Jvm.MethodName) prog_14_method_54_code (8 : Nat) (Option.some Jvm.ClassFile.FieldType.int)) ∈ BIG := big_mem 2126 (by decide +kernel) rfl
theorem w_eddf517a : (Jvm.Cond.fieldLink "VerseCommitteeModel" (198 : Nat) "VerseCommitteeModel" "print" "[B") ∈ BIG := big_mem 1714 (by decide +kernel) rfl
theorem w_ee1488ed : (Jvm.Cond.fieldLink "VerseCommittee$Reckoner" (22 : Nat) "VerseCommittee$Reckoner" "verses" "LVerseCommittee$Verses;") ∈ BIG := big_mem 357 (by decide +kernel) rfl
theorem w_ee15f630 : (Jvm.Cond.code ({ cls := "VerseCommitteeModel", name := "worth", desc := "(III)I" } : Jvm.MethodName) prog_14_method_62_code (7 : Nat) (Option.some Jvm.ClassFile.FieldType.int)) ∈ BIG := big_mem 2138 (by decide +kernel) rfl
theorem w_ee5daacb : (Jvm.Cond.selects "VerseCommittee" ({ cls := "VerseCommittee", name := "wordsFixedThen", desc := "(II)[I" } : Jvm.MethodName) ({ cls := "VerseCommittee", name := "wordsFixedThen", desc := "(II)[I" } : Jvm.MethodName)) ∈ BIG := big_mem 63 (by decide +kernel) rfl
theorem w_ee89cf1d : (Jvm.Cond.instanceMethod ({ cls := "VerseCommittee$People", name := "setCentreRate", desc := "(I)V" } : Jvm.MethodName)) ∈ BIG := big_mem 698 (by decide +kernel) rfl
theorem w_ee8a2ea1 : (Jvm.Cond.methodLink "VerseCommittee" (401 : Nat) ({ cls := "VerseCommittee$Verses", name := "bookOf", desc := "(I)I" } : Jvm.MethodName)) ∈ BIG := big_mem 1100 (by decide +kernel) rfl
theorem w_ee8f76dc : (Jvm.Cond.code ({ cls := "VerseCommittee$Choices", name := "enter", desc := "(II)Z" } : Jvm.MethodName) prog_2_method_3_code (4 : Nat) (Option.some Jvm.ClassFile.FieldType.boolean)) ∈ BIG := big_mem 1344 (by decide +kernel) rfl
theorem w_eeaea2b5 : (Jvm.Cond.instanceMethod ({ cls := "VerseCommitteeModel", name := "lastOf", desc := "(IIII)I" } : Jvm.MethodName)) ∈ BIG := big_mem 2109 (by decide +kernel) rfl
theorem w_eeb0e597 : (Jvm.Cond.code ({ cls := "VerseCommittee$Words", name := "put", desc := "(I[II)V" } : Jvm.MethodName) prog_12_method_11_code (5 : Nat) (Option.none : Option Jvm.ClassFile.FieldType)) ∈ BIG := big_mem 647 (by decide +kernel) rfl
theorem w_eebcd7a9 : (Jvm.Cond.instanceMethod ({ cls := "VerseCommitteeModel", name := "feed", desc := "(IIIII)I" } : Jvm.MethodName)) ∈ BIG := big_mem 1921 (by decide +kernel) rfl
theorem w_ef3770f1 : (Jvm.Cond.fieldLink "VerseCommittee$Rendering" (49 : Nat) "VerseCommittee$Rendering" "copy" "I") ∈ BIG := big_mem 1030 (by decide +kernel) rfl
theorem w_ef39f817 : (Jvm.Cond.methodLink "VerseCommittee" (116 : Nat) ({ cls := "VerseCommittee", name := "isCopy", desc := "(I)Z" } : Jvm.MethodName)) ∈ BIG := big_mem 607 (by decide +kernel) rfl
theorem w_ef4510ec : (Jvm.Cond.methodLink "VerseCommittee" (230 : Nat) ({ cls := "VerseCommittee$Rendering", name := "<init>", desc := "(III[II)V" } : Jvm.MethodName)) ∈ BIG := big_mem 1023 (by decide +kernel) rfl
theorem w_ef4ee9af : (Jvm.Cond.instanceMethod ({ cls := "VerseCommittee$Planner", name := "<init>", desc := "(LVerseCommittee$Verses;LVerseCommittee$People;LVerseCommittee$Shelf;)V" } : Jvm.MethodName)) ∈ BIG := big_mem 499 (by decide +kernel) rfl
theorem w_efe21e61 : (Jvm.Cond.code ({ cls := "VerseCommittee$Reckoner", name := "restDays", desc := "()I" } : Jvm.MethodName) prog_8_method_8_code (2 : Nat) (Option.some Jvm.ClassFile.FieldType.int)) ∈ BIG := big_mem 974 (by decide +kernel) rfl
theorem w_f00670cd : (Jvm.Cond.instanceMethod ({ cls := "VerseCommittee$Rendering", name := "putVote", desc := "(IZ)V" } : Jvm.MethodName)) ∈ BIG := big_mem 1111 (by decide +kernel) rfl
theorem w_f011e0c5 : (Jvm.Cond.fieldLink "VerseCommittee$Reckoner" (30 : Nat) "VerseCommittee$Reckoner" "verse" "I") ∈ BIG := big_mem 359 (by decide +kernel) rfl
theorem w_f063964a : (Jvm.Cond.fieldLink "VerseCommitteeModel" (13 : Nat) "VerseCommitteeModel" "book" "[I") ∈ BIG := big_mem 1634 (by decide +kernel) rfl
theorem w_f15dce18 : (Jvm.Cond.selects "VerseCommittee" ({ cls := "VerseCommittee", name := "token", desc := "(III)I" } : Jvm.MethodName) ({ cls := "VerseCommittee", name := "token", desc := "(III)I" } : Jvm.MethodName)) ∈ BIG := big_mem 989 (by decide +kernel) rfl
theorem w_f19989f6 : (Jvm.Cond.code ({ cls := "VerseCommittee$Findings", name := "tellClause", desc := "(II)V" } : Jvm.MethodName) prog_3_method_7_code (3 : Nat) (Option.none : Option Jvm.ClassFile.FieldType)) ∈ BIG := big_mem 1258 (by decide +kernel) rfl
theorem w_f1acc0a0 : (Jvm.Cond.instanceMethod ({ cls := "VerseCommitteeModel", name := "tokensOf", desc := "(II)I" } : Jvm.MethodName)) ∈ BIG := big_mem 2129 (by decide +kernel) rfl
theorem w_f1b22a1d : (Jvm.Cond.instanceMethod ({ cls := "VerseCommittee$Planner", name := "mayHave", desc := "(II)Z" } : Jvm.MethodName)) ∈ BIG := big_mem 1543 (by decide +kernel) rfl
theorem w_f1ec5025 : (Jvm.Cond.code ({ cls := "VerseCommitteeModel", name := "prints", desc := "(I)V" } : Jvm.MethodName) prog_14_method_113_code (2 : Nat) (Option.none : Option Jvm.ClassFile.FieldType)) ∈ BIG := big_mem 2351 (by decide +kernel) rfl
theorem w_f2163cd9 : (Jvm.Cond.methodLink "VerseCommitteeLaw" (140 : Nat) ({ cls := "VerseCommittee", name := "line", desc := "(I)I" } : Jvm.MethodName)) ∈ BIG := big_mem 1441 (by decide +kernel) rfl
theorem w_f2c8c85c : (Jvm.Cond.instanceMethod ({ cls := "VerseCommittee$Laws", name := "speaksOf", desc := "(II)Z" } : Jvm.MethodName)) ∈ BIG := big_mem 1245 (by decide +kernel) rfl
theorem w_f2e04574 : (Jvm.Cond.methodLink "VerseCommitteeLaw" (144 : Nat) ({ cls := "VerseCommittee", name := "reads", desc := "(IIIZ)Z" } : Jvm.MethodName)) ∈ BIG := big_mem 1454 (by decide +kernel) rfl
theorem w_f2eeb705 : (Jvm.Cond.code ({ cls := "VerseCommittee", name := "count", desc := "(I)I" } : Jvm.MethodName) prog_1_method_40_code (2 : Nat) (Option.some Jvm.ClassFile.FieldType.int)) ∈ BIG := big_mem 1591 (by decide +kernel) rfl
theorem w_f37e4cb2 : (Jvm.Cond.methodLink "VerseCommittee$Findings" (74 : Nat) ({ cls := "VerseCommittee$Laws", name := "value", desc := "(I)I" } : Jvm.MethodName)) ∈ BIG := big_mem 1250 (by decide +kernel) rfl
theorem w_f38ef80f : (Jvm.Cond.code ({ cls := "VerseCommittee", name := "tapeHasLetters", desc := "(I)Z" } : Jvm.MethodName) prog_1_method_50_code (3 : Nat) (Option.some Jvm.ClassFile.FieldType.boolean)) ∈ BIG := big_mem 631 (by decide +kernel) rfl
theorem w_f3945e3a : (Jvm.Cond.instanceMethod ({ cls := "VerseCommittee$Rendering", name := "tellSlot", desc := "(I)I" } : Jvm.MethodName)) ∈ BIG := big_mem 1585 (by decide +kernel) rfl
theorem w_f3cad787 : (Jvm.Cond.selects "VerseCommitteeModel" ({ cls := "VerseCommitteeModel", name := "spells", desc := "(III)V" } : Jvm.MethodName) ({ cls := "VerseCommitteeModel", name := "spells", desc := "(III)V" } : Jvm.MethodName)) ∈ BIG := big_mem 78 (by decide +kernel) rfl
theorem w_f3cbbd3a : (Jvm.Cond.code ({ cls := "VerseCommittee$Choices", name := "part", desc := "(II)Z" } : Jvm.MethodName) prog_2_method_4_code (3 : Nat) (Option.some Jvm.ClassFile.FieldType.boolean)) ∈ BIG := big_mem 1360 (by decide +kernel) rfl
theorem w_f3e30e8a : (Jvm.Cond.code ({ cls := "VerseCommittee$Reckoner", name := "isDigit", desc := "(I)Z" } : Jvm.MethodName) prog_8_method_20_code (1 : Nat) (Option.some Jvm.ClassFile.FieldType.boolean)) ∈ BIG := big_mem 951 (by decide +kernel) rfl
theorem w_f3e53d92 : (Jvm.Cond.instanceMethod ({ cls := "VerseCommittee$Laws", name := "value", desc := "(I)I" } : Jvm.MethodName)) ∈ BIG := big_mem 896 (by decide +kernel) rfl
theorem w_f3f48545 : (Jvm.Cond.fieldLink "VerseCommitteeModel" (274 : Nat) "VerseCommitteeModel" "bad" "I") ∈ BIG := big_mem 1661 (by decide +kernel) rfl
theorem w_f3f9d20d : (Jvm.Cond.methodLink "VerseCommittee$Findings" (119 : Nat) ({ cls := "VerseCommittee$Laws", name := "clauseOf", desc := "(II)I" } : Jvm.MethodName)) ∈ BIG := big_mem 1238 (by decide +kernel) rfl
theorem w_f40ddd45 : (Jvm.Cond.code ({ cls := "VerseCommittee$Rendering", name := "slots", desc := "()I" } : Jvm.MethodName) prog_9_method_7_code (1 : Nat) (Option.some Jvm.ClassFile.FieldType.int)) ∈ BIG := big_mem 1329 (by decide +kernel) rfl
theorem w_f45c8d5c : (Jvm.Cond.methodLink "VerseCommitteeModel" (488 : Nat) ({ cls := "VerseCommitteeModel", name := "isUnlike", desc := "(IIII)Z" } : Jvm.MethodName)) ∈ BIG := big_mem 2258 (by decide +kernel) rfl
theorem w_f46a99cd : (Jvm.Cond.methodLink "VerseCommittee$Shelf" (59 : Nat) ({ cls := "VerseCommittee$Rendering", name := "verseNumber", desc := "()I" } : Jvm.MethodName)) ∈ BIG := big_mem 1157 (by decide +kernel) rfl
theorem w_f48fe6f6 : (Jvm.Cond.selects "VerseCommittee$Laws" ({ cls := "VerseCommittee$Laws", name := "speaksOfAny", desc := "(I[I)Z" } : Jvm.MethodName) ({ cls := "VerseCommittee$Laws", name := "speaksOfAny", desc := "(I[I)Z" } : Jvm.MethodName)) ∈ BIG := big_mem 1242 (by decide +kernel) rfl
theorem w_f49e9048 : (Jvm.Cond.selects "VerseCommittee$Findings" ({ cls := "VerseCommittee$Findings", name := "seen", desc := "()I" } : Jvm.MethodName) ({ cls := "VerseCommittee$Findings", name := "seen", desc := "()I" } : Jvm.MethodName)) ∈ BIG := big_mem 1265 (by decide +kernel) rfl
theorem w_f4f1cecb : (Jvm.Cond.instanceMethod ({ cls := "VerseCommittee$Parser", name := "sign", desc := "()I" } : Jvm.MethodName)) ∈ BIG := big_mem 732 (by decide +kernel) rfl
theorem w_f504dcd2 : (Jvm.Cond.methodLink "VerseCommittee$Findings" (81 : Nat) ({ cls := "VerseCommittee$Findings", name := "tellClause", desc := "(II)V" } : Jvm.MethodName)) ∈ BIG := big_mem 1255 (by decide +kernel) rfl
theorem w_f50e1035 : (Jvm.Cond.code ({ cls := "VerseCommitteeModel", name := "isAhead", desc := "(IIII)Z" } : Jvm.MethodName) prog_14_method_105_code (6 : Nat) (Option.some Jvm.ClassFile.FieldType.boolean)) ∈ BIG := big_mem 2320 (by decide +kernel) rfl
theorem w_f532a0f3 : (Jvm.Cond.methodLink "VerseCommitteeLaw" (153 : Nat) ({ cls := "VerseCommittee", name := "changes", desc := "(III)I" } : Jvm.MethodName)) ∈ BIG := big_mem 1471 (by decide +kernel) rfl
theorem w_f547145a : (Jvm.Cond.instanceMethod ({ cls := "VerseCommitteeModel", name := "fewest", desc := "(II)I" } : Jvm.MethodName)) ∈ BIG := big_mem 2156 (by decide +kernel) rfl
theorem w_f581183b : (Jvm.Cond.static ({ cls := "VerseCommitteeModel", name := "has", desc := "(II)Z" } : Jvm.MethodName)) ∈ BIG := big_mem 2036 (by decide +kernel) rfl
theorem w_f5908580 : (Jvm.Cond.instanceMethod ({ cls := "VerseCommitteeModel", name := "goesBehind", desc := "()Z" } : Jvm.MethodName)) ∈ BIG := big_mem 2093 (by decide +kernel) rfl
theorem w_f5fa100a : (Jvm.Cond.selects "VerseCommittee" ({ cls := "VerseCommittee", name := "unlike", desc := "(II)I" } : Jvm.MethodName) ({ cls := "VerseCommittee", name := "unlike", desc := "(II)I" } : Jvm.MethodName)) ∈ BIG := big_mem 1291 (by decide +kernel) rfl
theorem w_f673be94 : (Jvm.Cond.methodLink "VerseCommittee" (195 : Nat) ({ cls := "VerseCommittee$Reckoner", name := "hundredths", desc := "(I)I" } : Jvm.MethodName)) ∈ BIG := big_mem 967 (by decide +kernel) rfl
theorem w_f6f85c8e : (Jvm.Cond.methodLink "VerseCommittee$Reckoner" (140 : Nat) ({ cls := "VerseCommittee$Reckoner", name := "reckonSum", desc := "(ZI)I" } : Jvm.MethodName)) ∈ BIG := big_mem 937 (by decide +kernel) rfl
theorem w_f728246e : (Jvm.Cond.code ({ cls := "VerseCommitteeModel", name := "isOfStage", desc := "(III)Z" } : Jvm.MethodName) prog_14_method_68_code (4 : Nat) (Option.some Jvm.ClassFile.FieldType.boolean)) ∈ BIG := big_mem 2177 (by decide +kernel) rfl
theorem w_f72eaa8f : (Jvm.Cond.methodLink "VerseCommitteeModel" (313 : Nat) ({ cls := "VerseCommitteeModel", name := "isPlus", desc := "(I)Z" } : Jvm.MethodName)) ∈ BIG := big_mem 2073 (by decide +kernel) rfl
theorem w_f7795595 : (Jvm.Cond.selects "VerseCommittee$Rendering" ({ cls := "VerseCommittee$Rendering", name := "putVote", desc := "(IZ)V" } : Jvm.MethodName) ({ cls := "VerseCommittee$Rendering", name := "putVote", desc := "(IZ)V" } : Jvm.MethodName)) ∈ BIG := big_mem 1112 (by decide +kernel) rfl
theorem w_f7a5254f : (Jvm.Cond.fieldLink "VerseCommitteeModel" (132 : Nat) "VerseCommitteeModel" "rWord" "[I") ∈ BIG := big_mem 1682 (by decide +kernel) rfl
theorem w_f7c0dd0d : (Jvm.Cond.selects "VerseCommittee$Parser" ({ cls := "VerseCommittee$Parser", name := "pass", desc := "(I)Z" } : Jvm.MethodName) ({ cls := "VerseCommittee$Parser", name := "pass", desc := "(I)Z" } : Jvm.MethodName)) ∈ BIG := big_mem 12 (by decide +kernel) rfl
theorem w_f7d3cf4b : (Jvm.Cond.methodLink "VerseCommittee" (207 : Nat) ({ cls := "VerseCommittee$Reckoner", name := "companyThere", desc := "()I" } : Jvm.MethodName)) ∈ BIG := big_mem 983 (by decide +kernel) rfl
theorem w_f80dcb5c : (Jvm.Cond.methodLink "VerseCommitteeModel" (396 : Nat) ({ cls := "VerseCommitteeModel", name := "neededAt", desc := "(III)I" } : Jvm.MethodName)) ∈ BIG := big_mem 2103 (by decide +kernel) rfl
theorem w_f8293cb5 : (Jvm.Cond.selects "VerseCommitteeModel" ({ cls := "VerseCommitteeModel", name := "isVerse", desc := "(I)Z" } : Jvm.MethodName) ({ cls := "VerseCommitteeModel", name := "isVerse", desc := "(I)Z" } : Jvm.MethodName)) ∈ BIG := big_mem 75 (by decide +kernel) rfl
theorem w_f865855e : (Jvm.Cond.instanceMethod ({ cls := "VerseCommitteeModel", name := "holds", desc := "(IIII)I" } : Jvm.MethodName)) ∈ BIG := big_mem 2132 (by decide +kernel) rfl
theorem w_f867440d : (Jvm.Cond.methodLink "VerseCommitteeLaw" (27 : Nat) ({ cls := "VerseCommitteeModel", name := "verse", desc := "(II)I" } : Jvm.MethodName)) ∈ BIG := big_mem 1928 (by decide +kernel) rfl
theorem w_f8a8e66d : (Jvm.Cond.code ({ cls := "VerseCommittee$Planner", name := "giveTo", desc := "(III)V" } : Jvm.MethodName) prog_7_method_9_code (4 : Nat) (Option.none : Option Jvm.ClassFile.FieldType)) ∈ BIG := big_mem 1553 (by decide +kernel) rfl
theorem w_f92692b5 : (Jvm.Cond.instanceMethod ({ cls := "VerseCommittee$Parser", name := "readClause", desc := "(I)Z" } : Jvm.MethodName)) ∈ BIG := big_mem 728 (by decide +kernel) rfl
theorem w_f952192f : (Jvm.Cond.selects "VerseCommittee" ({ cls := "VerseCommittee", name := "fixed", desc := "(I)I" } : Jvm.MethodName) ({ cls := "VerseCommittee", name := "fixed", desc := "(I)I" } : Jvm.MethodName)) ∈ BIG := big_mem 1202 (by decide +kernel) rfl
theorem w_f967b07c : (Jvm.Cond.code ({ cls := "VerseCommitteeModel", name := "wordOf", desc := "(III)I" } : Jvm.MethodName) prog_14_method_89_code (6 : Nat) (Option.some Jvm.ClassFile.FieldType.int)) ∈ BIG := big_mem 2269 (by decide +kernel) rfl
theorem w_f9bc67f6 : (Jvm.Cond.code ({ cls := "VerseCommitteeModel", name := "missed", desc := "(I)I" } : Jvm.MethodName) prog_14_method_111_code (6 : Nat) (Option.some Jvm.ClassFile.FieldType.int)) ∈ BIG := big_mem 2336 (by decide +kernel) rfl
theorem w_fa2409a5 : (Jvm.Cond.selects "VerseCommitteeModel" ({ cls := "VerseCommitteeModel", name := "breachesOf", desc := "(II)I" } : Jvm.MethodName) ({ cls := "VerseCommitteeModel", name := "breachesOf", desc := "(II)I" } : Jvm.MethodName)) ∈ BIG := big_mem 123 (by decide +kernel) rfl
theorem w_fa7b8961 : (Jvm.Cond.fieldLink "VerseCommitteeModel" (26 : Nat) "VerseCommitteeModel" "spelledMany" "[I") ∈ BIG := big_mem 1638 (by decide +kernel) rfl
theorem w_fa939814 : (Jvm.Cond.methodLink "VerseCommittee" (80 : Nat) ({ cls := "VerseCommittee$Choices", name := "<init>", desc := "(LVerseCommittee$Laws;LVerseCommittee$Verses;LVerseCommittee$Reckoner;LVerseCommittee$Shelf;)V" } : Jvm.MethodName)) ∈ BIG := big_mem 448 (by decide +kernel) rfl
theorem w_fab7e5e0 : (Jvm.Cond.code ({ cls := "VerseCommitteeModel", name := "scholar", desc := "(IZ)I" } : Jvm.MethodName) prog_14_method_24_code (3 : Nat) (Option.some Jvm.ClassFile.FieldType.int)) ∈ BIG := big_mem 1990 (by decide +kernel) rfl
theorem w_faf063ab : (Jvm.Cond.instanceMethod ({ cls := "VerseCommittee$Shelf", name := "fix", desc := "(ILVerseCommittee$Rendering;I)V" } : Jvm.MethodName)) ∈ BIG := big_mem 1154 (by decide +kernel) rfl
theorem w_faf242e6 : (Jvm.Cond.selects "VerseCommitteeModel" ({ cls := "VerseCommitteeModel", name := "rules", desc := "(IIII)I" } : Jvm.MethodName) ({ cls := "VerseCommitteeModel", name := "rules", desc := "(IIII)I" } : Jvm.MethodName)) ∈ BIG := big_mem 1993 (by decide +kernel) rfl
theorem w_fb03e915 : (Jvm.Cond.instanceMethod ({ cls := "VerseCommitteeModel", name := "prints", desc := "(I)V" } : Jvm.MethodName)) ∈ BIG := big_mem 2350 (by decide +kernel) rfl
theorem w_fb047f29 : (Jvm.Cond.selects "VerseCommittee$Laws" ({ cls := "VerseCommittee$Laws", name := "putClause", desc := "(III)V" } : Jvm.MethodName) ({ cls := "VerseCommittee$Laws", name := "putClause", desc := "(III)V" } : Jvm.MethodName)) ∈ BIG := big_mem 740 (by decide +kernel) rfl
theorem w_fb49a272 : (Jvm.Cond.code ({ cls := "VerseCommitteeModel", name := "rows", desc := "()I" } : Jvm.MethodName) prog_14_method_118_code (3 : Nat) (Option.some Jvm.ClassFile.FieldType.int)) ∈ BIG := big_mem 2367 (by decide +kernel) rfl
theorem w_fb4ab446 : (Jvm.Cond.methodLink "VerseCommitteeLaw" (101 : Nat) ({ cls := "VerseCommitteeModel", name := "fixed", desc := "(I)I" } : Jvm.MethodName)) ∈ BIG := big_mem 2206 (by decide +kernel) rfl
theorem w_fb5d85e0 : (Jvm.Cond.code ({ cls := "VerseCommitteeModel", name := "isPlus", desc := "(I)Z" } : Jvm.MethodName) prog_14_method_37_code (1 : Nat) (Option.some Jvm.ClassFile.FieldType.boolean)) ∈ BIG := big_mem 2075 (by decide +kernel) rfl
theorem w_fb971f2f : (Jvm.Cond.fieldLink "VerseCommittee$Laws" (41 : Nat) "VerseCommittee$Laws" "starts" "[I") ∈ BIG := big_mem 264 (by decide +kernel) rfl
theorem w_fbd9793e : (Jvm.Cond.instanceMethod ({ cls := "VerseCommittee$Reckoner", name := "reckonFactor", desc := "(ZI)I" } : Jvm.MethodName)) ∈ BIG := big_mem 947 (by decide +kernel) rfl
theorem w_fbeaf637 : (Jvm.Cond.methodLink "VerseCommittee$Reckoner" (114 : Nat) ({ cls := "VerseCommittee$Reckoner", name := "isInForce", desc := "(I)Z" } : Jvm.MethodName)) ∈ BIG := big_mem 878 (by decide +kernel) rfl
theorem w_fc0c00db : (Jvm.Cond.selects "VerseCommitteeModel" ({ cls := "VerseCommitteeModel", name := "puts", desc := "(I)V" } : Jvm.MethodName) ({ cls := "VerseCommitteeModel", name := "puts", desc := "(I)V" } : Jvm.MethodName)) ∈ BIG := big_mem 93 (by decide +kernel) rfl
theorem w_fc2cb27e : (Jvm.Cond.methodLink "VerseCommittee" (385 : Nat) ({ cls := "VerseCommittee$Words", name := "size", desc := "()I" } : Jvm.MethodName)) ∈ BIG := big_mem 1592 (by decide +kernel) rfl
theorem w_fc4dd773 : (Jvm.Cond.fieldLink "VerseCommittee$Reckoner" (49 : Nat) "VerseCommittee$Reckoner" "measure" "I") ∈ BIG := big_mem 366 (by decide +kernel) rfl
theorem w_fc7d9d5d : (Jvm.Cond.methodLink "VerseCommitteeLaw" (105 : Nat) ({ cls := "VerseCommitteeModel", name := "fixedOn", desc := "(II)I" } : Jvm.MethodName)) ∈ BIG := big_mem 2210 (by decide +kernel) rfl
theorem w_fc927bb0 : (Jvm.Cond.code ({ cls := "VerseCommittee$Laws", name := "isNumber", desc := "(I)Z" } : Jvm.MethodName) prog_4_method_15_code (1 : Nat) (Option.some Jvm.ClassFile.FieldType.boolean)) ∈ BIG := big_mem 890 (by decide +kernel) rfl
theorem w_fcd592c1 : (Jvm.Cond.selects "VerseCommittee$Reckoner" ({ cls := "VerseCommittee$Reckoner", name := "reckonPiece", desc := "(ZI)Z" } : Jvm.MethodName) ({ cls := "VerseCommittee$Reckoner", name := "reckonPiece", desc := "(ZI)Z" } : Jvm.MethodName)) ∈ BIG := big_mem 30 (by decide +kernel) rfl
theorem w_fd133109 : (Jvm.Cond.selects "VerseCommittee$Laws" ({ cls := "VerseCommittee$Laws", name := "isFull", desc := "()Z" } : Jvm.MethodName) ({ cls := "VerseCommittee$Laws", name := "isFull", desc := "()Z" } : Jvm.MethodName)) ∈ BIG := big_mem 720 (by decide +kernel) rfl
theorem w_fd22f426 : (Jvm.Cond.methodLink "VerseCommitteeLaw" (53 : Nat) ({ cls := "VerseCommitteeModel", name := "centre", desc := "(I)Z" } : Jvm.MethodName)) ∈ BIG := big_mem 1983 (by decide +kernel) rfl
theorem w_fd5e1ccf : (Jvm.Cond.selects "VerseCommitteeModel" ({ cls := "VerseCommitteeModel", name := "fixedVerse", desc := "(I)I" } : Jvm.MethodName) ({ cls := "VerseCommitteeModel", name := "fixedVerse", desc := "(I)I" } : Jvm.MethodName)) ∈ BIG := big_mem 146 (by decide +kernel) rfl
theorem w_fd6940e4 : (Jvm.Cond.selects "VerseCommitteeModel" ({ cls := "VerseCommitteeModel", name := "isRendering", desc := "(I)Z" } : Jvm.MethodName) ({ cls := "VerseCommitteeModel", name := "isRendering", desc := "(I)Z" } : Jvm.MethodName)) ∈ BIG := big_mem 115 (by decide +kernel) rfl
theorem w_fd96d7e4 : (Jvm.Cond.instanceMethod ({ cls := "VerseCommittee$Verses", name := "recordReader", desc := "(IIIZ)V" } : Jvm.MethodName)) ∈ BIG := big_mem 1459 (by decide +kernel) rfl
theorem w_fddcfcdc : (Jvm.Cond.selects "VerseCommittee$Parser" ({ cls := "VerseCommittee$Parser", name := "readPiece", desc := "(I)Z" } : Jvm.MethodName) ({ cls := "VerseCommittee$Parser", name := "readPiece", desc := "(I)Z" } : Jvm.MethodName)) ∈ BIG := big_mem 16 (by decide +kernel) rfl
theorem w_fdf4bdd8 : (Jvm.Cond.code ({ cls := "VerseCommitteeModel", name := "line", desc := "(I)I" } : Jvm.MethodName) prog_14_method_108_code (4 : Nat) (Option.some Jvm.ClassFile.FieldType.int)) ∈ BIG := big_mem 2324 (by decide +kernel) rfl
theorem w_fe4060b2 : (Jvm.Cond.selects "VerseCommittee" ({ cls := "VerseCommittee", name := "changes", desc := "(III)I" } : Jvm.MethodName) ({ cls := "VerseCommittee", name := "changes", desc := "(III)I" } : Jvm.MethodName)) ∈ BIG := big_mem 1473 (by decide +kernel) rfl
theorem w_fe61fa4f : (Jvm.Cond.selects "VerseCommitteeModel" ({ cls := "VerseCommitteeModel", name := "opens", desc := "()V" } : Jvm.MethodName) ({ cls := "VerseCommitteeModel", name := "opens", desc := "()V" } : Jvm.MethodName)) ∈ BIG := big_mem 92 (by decide +kernel) rfl
theorem w_fe8064a0 : (Jvm.Cond.code ({ cls := "VerseCommittee$Choices", name := "<init>", desc := "(LVerseCommittee$Laws;LVerseCommittee$Verses;LVerseCommittee$Reckoner;LVerseCommittee$Shelf;)V" } : Jvm.MethodName) prog_2_method_1_code (5 : Nat) (Option.none : Option Jvm.ClassFile.FieldType)) ∈ BIG := big_mem 450 (by decide +kernel) rfl
theorem w_fe975664 : (Jvm.Cond.selects "VerseCommittee" ({ cls := "VerseCommittee", name := "syllables", desc := "(I)I" } : Jvm.MethodName) ({ cls := "VerseCommittee", name := "syllables", desc := "(I)I" } : Jvm.MethodName)) ∈ BIG := big_mem 670 (by decide +kernel) rfl
theorem w_fea14522 : (Jvm.Cond.initialized "VerseCommittee$Words") ∈ BIG := big_mem 150 (by decide +kernel) rfl
theorem w_fea7cff4 : (Jvm.Cond.instanceMethod ({ cls := "VerseCommitteeModel", name := "verse", desc := "(II)I" } : Jvm.MethodName)) ∈ BIG := big_mem 1929 (by decide +kernel) rfl
theorem w_fed1d1c9 : (Jvm.Cond.instanceMethod ({ cls := "VerseCommittee", name := "now", desc := "(I)Z" } : Jvm.MethodName)) ∈ BIG := big_mem 577 (by decide +kernel) rfl
theorem w_fef7e639 : (Jvm.Cond.selects "VerseCommittee" ({ cls := "VerseCommittee", name := "reads", desc := "(IIIZ)Z" } : Jvm.MethodName) ({ cls := "VerseCommittee", name := "reads", desc := "(IIIZ)Z" } : Jvm.MethodName)) ∈ BIG := big_mem 1456 (by decide +kernel) rfl
theorem w_ff2159a5 : (Jvm.Cond.methodLink "VerseCommittee" (254 : Nat) ({ cls := "VerseCommittee$Rendering", name := "verseNumber", desc := "()I" } : Jvm.MethodName)) ∈ BIG := big_mem 1096 (by decide +kernel) rfl
theorem w_ff364d43 : (Jvm.Cond.selects "VerseCommittee$Rendering" ({ cls := "VerseCommittee$Rendering", name := "tokenRow", desc := "()[I" } : Jvm.MethodName) ({ cls := "VerseCommittee$Rendering", name := "tokenRow", desc := "()[I" } : Jvm.MethodName)) ∈ BIG := big_mem 1227 (by decide +kernel) rfl
theorem w_ff465bcf : (Jvm.Cond.instanceMethod ({ cls := "VerseCommitteeModel", name := "cost", desc := "(I)I" } : Jvm.MethodName)) ∈ BIG := big_mem 2287 (by decide +kernel) rfl
theorem w_ff475c81 : (Jvm.Cond.instanceMethod ({ cls := "VerseCommittee$Parser", name := "readHundredths", desc := "(I)Z" } : Jvm.MethodName)) ∈ BIG := big_mem 812 (by decide +kernel) rfl
theorem w_ffc7997d : (Jvm.Cond.selects "VerseCommitteeModel" ({ cls := "VerseCommitteeModel", name := "turnsBy", desc := "(III)Z" } : Jvm.MethodName) ({ cls := "VerseCommitteeModel", name := "turnsBy", desc := "(III)Z" } : Jvm.MethodName)) ∈ BIG := big_mem 125 (by decide +kernel) rfl
theorem w_ffe2779c : (Jvm.Cond.methodLink "VerseCommitteeLaw" (97 : Nat) ({ cls := "VerseCommitteeModel", name := "voids", desc := "(I)I" } : Jvm.MethodName)) ∈ BIG := big_mem 2190 (by decide +kernel) rfl
theorem w_ffe94599 : (Jvm.Cond.instanceMethod ({ cls := "VerseCommittee$Verses", name := "bookOf", desc := "(I)I" } : Jvm.MethodName)) ∈ BIG := big_mem 847 (by decide +kernel) rfl
theorem w_ffede7f4 : (Jvm.Cond.methodLink "VerseCommittee" (360 : Nat) ({ cls := "VerseCommittee$Rendering", name := "wordAt", desc := "(I)I" } : Jvm.MethodName)) ∈ BIG := big_mem 1453 (by decide +kernel) rfl
theorem w_ffef6708 : (Jvm.Cond.selects "VerseCommittee$Words" ({ cls := "VerseCommittee$Words", name := "size", desc := "()I" } : Jvm.MethodName) ({ cls := "VerseCommittee$Words", name := "size", desc := "()I" } : Jvm.MethodName)) ∈ BIG := big_mem 1594 (by decide +kernel) rfl
theorem iX0 : ∀ w ∈ u_ws RX0 TX0 14, w ∈ BIG := in_places [466, 468, 470, 472, 474, 476, 478, 480, 482, 484, 486, 488, 490, 492] (by decide +kernel) (by decide +kernel)
theorem iX1 : ∀ w ∈ u_ws RX1 TX1 13, w ∈ BIG := in_places [418, 420, 422, 424, 426, 428, 430, 432, 434, 436, 438, 440, 442] (by decide +kernel) (by decide +kernel)
theorem iX2 : ∀ w ∈ u_ws RX2 TX2 11, w ∈ BIG := in_places [266, 268, 270, 272, 274, 276, 278, 280, 282, 284, 286] (by decide +kernel) (by decide +kernel)
theorem iX3 : ∀ w ∈ u_ws RX3 TX3 7, w ∈ BIG := in_places [334, 336, 338, 340, 342, 344, 346] (by decide +kernel) (by decide +kernel)
theorem iX4 : ∀ w ∈ u_ws RX4 TX4 8, w ∈ BIG := in_places [231, 233, 235, 237, 239, 241, 243, 245] (by decide +kernel) (by decide +kernel)
theorem iX5 : ∀ w ∈ u_ws RX5 TX5 10, w ∈ BIG := in_places [512, 514, 516, 518, 520, 522, 524, 526, 528, 530] (by decide +kernel) (by decide +kernel)
theorem iX6 : ∀ w ∈ u_ws RX6 TX6 14, w ∈ BIG := in_places [370, 372, 374, 376, 378, 380, 382, 384, 386, 388, 390, 392, 394, 396] (by decide +kernel) (by decide +kernel)
theorem iX7 : ∀ w ∈ u_ws RX7 TX7 14, w ∈ BIG := in_places [1042, 1044, 1046, 1048, 1050, 1052, 1054, 1056, 1058, 1060, 1062, 1064, 1066, 1068] (by decide +kernel) (by decide +kernel)
theorem iX8 : ∀ w ∈ u_ws RX8 TX8 7, w ∈ BIG := in_places [304, 306, 308, 310, 312, 314, 316] (by decide +kernel) (by decide +kernel)
theorem iX9 : ∀ w ∈ u_ws RX9 TX9 6, w ∈ BIG := in_places [204, 206, 208, 210, 212, 214] (by decide +kernel) (by decide +kernel)
theorem iX10 : ∀ w ∈ u_ws RX10 TX10 3, w ∈ BIG := in_places [181, 183, 185] (by decide +kernel) (by decide +kernel)
theorem iX11 : ∀ w ∈ u_ws RX11 TX11 14, w ∈ BIG := in_places [547, 549, 551, 553, 555, 557, 559, 561, 563, 565, 567, 569, 571, 573] (by decide +kernel) (by decide +kernel)
theorem iX12 : ∀ w ∈ u_ws RX12 TX12 96, w ∈ BIG := in_places [1720, 1722, 1724, 1726, 1728, 1730, 1732, 1734, 1736, 1738, 1740, 1742, 1744, 1746, 1748, 1750, 1752, 1754, 1756, 1758, 1760, 1762, 1764, 1766, 1768, 1770, 1772, 1774, 1776, 1778, 1780, 1782, 1784, 1786, 1788, 1790, 1792, 1794, 1796, 1798, 1800, 1802, 1804, 1806, 1808, 1810, 1812, 1814, 1816, 1818, 1820, 1822, 1824, 1826, 1828, 1830, 1832, 1834, 1836, 1838, 1840, 1842, 1844, 1846, 1848, 1850, 1852, 1854, 1856, 1858, 1860, 1862, 1864, 1866, 1868, 1870, 1872, 1874, 1876, 1878, 1880, 1882, 1884, 1886, 1888, 1890, 1892, 1894, 1896, 1898, 1900, 1902, 1904, 1906, 1908, 1910] (by decide +kernel) (by decide +kernel)
theorem tI_m1000 : (-1000 : Int32).toInt = -1000 := by decide
theorem tI_m10 : (-10 : Int32).toInt = -10 := by decide
theorem tI_m9 : (-9 : Int32).toInt = -9 := by decide
theorem tI_m8 : (-8 : Int32).toInt = -8 := by decide
theorem tI_m7 : (-7 : Int32).toInt = -7 := by decide
theorem tI_m6 : (-6 : Int32).toInt = -6 := by decide
theorem tI_m5 : (-5 : Int32).toInt = -5 := by decide
theorem tI_m4 : (-4 : Int32).toInt = -4 := by decide
theorem tI_m3 : (-3 : Int32).toInt = -3 := by decide
theorem tI_m2 : (-2 : Int32).toInt = -2 := by decide
theorem tI_m1 : (-1 : Int32).toInt = -1 := by decide
theorem tI_0 : (0 : Int32).toInt = 0 := by decide
theorem tI_1 : (1 : Int32).toInt = 1 := by decide
theorem tI_2 : (2 : Int32).toInt = 2 := by decide
theorem tI_3 : (3 : Int32).toInt = 3 := by decide
theorem tI_4 : (4 : Int32).toInt = 4 := by decide
theorem tI_5 : (5 : Int32).toInt = 5 := by decide
theorem tI_6 : (6 : Int32).toInt = 6 := by decide
theorem tI_7 : (7 : Int32).toInt = 7 := by decide
theorem tI_8 : (8 : Int32).toInt = 8 := by decide
theorem tI_9 : (9 : Int32).toInt = 9 := by decide
theorem tI_10 : (10 : Int32).toInt = 10 := by decide
theorem tI_11 : (11 : Int32).toInt = 11 := by decide
theorem tI_12 : (12 : Int32).toInt = 12 := by decide
theorem tI_13 : (13 : Int32).toInt = 13 := by decide
theorem tI_14 : (14 : Int32).toInt = 14 := by decide
theorem tI_15 : (15 : Int32).toInt = 15 := by decide
theorem tI_16 : (16 : Int32).toInt = 16 := by decide
theorem tI_17 : (17 : Int32).toInt = 17 := by decide
theorem tI_18 : (18 : Int32).toInt = 18 := by decide
theorem tI_19 : (19 : Int32).toInt = 19 := by decide
theorem tI_20 : (20 : Int32).toInt = 20 := by decide
theorem tI_21 : (21 : Int32).toInt = 21 := by decide
theorem tI_22 : (22 : Int32).toInt = 22 := by decide
theorem tI_23 : (23 : Int32).toInt = 23 := by decide
theorem tI_24 : (24 : Int32).toInt = 24 := by decide
theorem tI_25 : (25 : Int32).toInt = 25 := by decide
theorem tI_26 : (26 : Int32).toInt = 26 := by decide
theorem tI_27 : (27 : Int32).toInt = 27 := by decide
theorem tI_28 : (28 : Int32).toInt = 28 := by decide
theorem tI_29 : (29 : Int32).toInt = 29 := by decide
theorem tI_30 : (30 : Int32).toInt = 30 := by decide
theorem tI_31 : (31 : Int32).toInt = 31 := by decide
theorem tI_32 : (32 : Int32).toInt = 32 := by decide
theorem tI_33 : (33 : Int32).toInt = 33 := by decide
theorem tI_34 : (34 : Int32).toInt = 34 := by decide
theorem tI_35 : (35 : Int32).toInt = 35 := by decide
theorem tI_36 : (36 : Int32).toInt = 36 := by decide
theorem tI_37 : (37 : Int32).toInt = 37 := by decide
theorem tI_38 : (38 : Int32).toInt = 38 := by decide
theorem tI_39 : (39 : Int32).toInt = 39 := by decide
theorem tI_40 : (40 : Int32).toInt = 40 := by decide
theorem tI_41 : (41 : Int32).toInt = 41 := by decide
theorem tI_42 : (42 : Int32).toInt = 42 := by decide
theorem tI_43 : (43 : Int32).toInt = 43 := by decide
theorem tI_44 : (44 : Int32).toInt = 44 := by decide
theorem tI_45 : (45 : Int32).toInt = 45 := by decide
theorem tI_46 : (46 : Int32).toInt = 46 := by decide
theorem tI_47 : (47 : Int32).toInt = 47 := by decide
theorem tI_48 : (48 : Int32).toInt = 48 := by decide
theorem tI_49 : (49 : Int32).toInt = 49 := by decide
theorem tI_50 : (50 : Int32).toInt = 50 := by decide
theorem tI_51 : (51 : Int32).toInt = 51 := by decide
theorem tI_52 : (52 : Int32).toInt = 52 := by decide
theorem tI_53 : (53 : Int32).toInt = 53 := by decide
theorem tI_54 : (54 : Int32).toInt = 54 := by decide
theorem tI_55 : (55 : Int32).toInt = 55 := by decide
theorem tI_56 : (56 : Int32).toInt = 56 := by decide
theorem tI_57 : (57 : Int32).toInt = 57 := by decide
theorem tI_58 : (58 : Int32).toInt = 58 := by decide
theorem tI_59 : (59 : Int32).toInt = 59 := by decide
theorem tI_60 : (60 : Int32).toInt = 60 := by decide
theorem tI_61 : (61 : Int32).toInt = 61 := by decide
theorem tI_62 : (62 : Int32).toInt = 62 := by decide
theorem tI_63 : (63 : Int32).toInt = 63 := by decide
theorem tI_64 : (64 : Int32).toInt = 64 := by decide
theorem tI_65 : (65 : Int32).toInt = 65 := by decide
theorem tI_66 : (66 : Int32).toInt = 66 := by decide
theorem tI_67 : (67 : Int32).toInt = 67 := by decide
theorem tI_68 : (68 : Int32).toInt = 68 := by decide
theorem tI_69 : (69 : Int32).toInt = 69 := by decide
theorem tI_70 : (70 : Int32).toInt = 70 := by decide
theorem tI_71 : (71 : Int32).toInt = 71 := by decide
theorem tI_72 : (72 : Int32).toInt = 72 := by decide
theorem tI_73 : (73 : Int32).toInt = 73 := by decide
theorem tI_74 : (74 : Int32).toInt = 74 := by decide
theorem tI_75 : (75 : Int32).toInt = 75 := by decide
theorem tI_76 : (76 : Int32).toInt = 76 := by decide
theorem tI_77 : (77 : Int32).toInt = 77 := by decide
theorem tI_78 : (78 : Int32).toInt = 78 := by decide
theorem tI_79 : (79 : Int32).toInt = 79 := by decide
theorem tI_80 : (80 : Int32).toInt = 80 := by decide
theorem tI_81 : (81 : Int32).toInt = 81 := by decide
theorem tI_82 : (82 : Int32).toInt = 82 := by decide
theorem tI_83 : (83 : Int32).toInt = 83 := by decide
theorem tI_84 : (84 : Int32).toInt = 84 := by decide
theorem tI_85 : (85 : Int32).toInt = 85 := by decide
theorem tI_86 : (86 : Int32).toInt = 86 := by decide
theorem tI_87 : (87 : Int32).toInt = 87 := by decide
theorem tI_88 : (88 : Int32).toInt = 88 := by decide
theorem tI_89 : (89 : Int32).toInt = 89 := by decide
theorem tI_90 : (90 : Int32).toInt = 90 := by decide
theorem tI_91 : (91 : Int32).toInt = 91 := by decide
theorem tI_92 : (92 : Int32).toInt = 92 := by decide
theorem tI_93 : (93 : Int32).toInt = 93 := by decide
theorem tI_94 : (94 : Int32).toInt = 94 := by decide
theorem tI_95 : (95 : Int32).toInt = 95 := by decide
theorem tI_96 : (96 : Int32).toInt = 96 := by decide
theorem tI_97 : (97 : Int32).toInt = 97 := by decide
theorem tI_98 : (98 : Int32).toInt = 98 := by decide
theorem tI_99 : (99 : Int32).toInt = 99 := by decide
theorem tI_100 : (100 : Int32).toInt = 100 := by decide
theorem tI_101 : (101 : Int32).toInt = 101 := by decide
theorem tI_102 : (102 : Int32).toInt = 102 := by decide
theorem tI_103 : (103 : Int32).toInt = 103 := by decide
theorem tI_104 : (104 : Int32).toInt = 104 := by decide
theorem tI_105 : (105 : Int32).toInt = 105 := by decide
theorem tI_106 : (106 : Int32).toInt = 106 := by decide
theorem tI_107 : (107 : Int32).toInt = 107 := by decide
theorem tI_108 : (108 : Int32).toInt = 108 := by decide
theorem tI_109 : (109 : Int32).toInt = 109 := by decide
theorem tI_110 : (110 : Int32).toInt = 110 := by decide
theorem tI_111 : (111 : Int32).toInt = 111 := by decide
theorem tI_112 : (112 : Int32).toInt = 112 := by decide
theorem tI_113 : (113 : Int32).toInt = 113 := by decide
theorem tI_114 : (114 : Int32).toInt = 114 := by decide
theorem tI_115 : (115 : Int32).toInt = 115 := by decide
theorem tI_116 : (116 : Int32).toInt = 116 := by decide
theorem tI_117 : (117 : Int32).toInt = 117 := by decide
theorem tI_118 : (118 : Int32).toInt = 118 := by decide
theorem tI_119 : (119 : Int32).toInt = 119 := by decide
theorem tI_120 : (120 : Int32).toInt = 120 := by decide
theorem tI_121 : (121 : Int32).toInt = 121 := by decide
theorem tI_122 : (122 : Int32).toInt = 122 := by decide
theorem tI_123 : (123 : Int32).toInt = 123 := by decide
theorem tI_124 : (124 : Int32).toInt = 124 := by decide
theorem tI_125 : (125 : Int32).toInt = 125 := by decide
theorem tI_126 : (126 : Int32).toInt = 126 := by decide
theorem tI_127 : (127 : Int32).toInt = 127 := by decide
theorem tI_128 : (128 : Int32).toInt = 128 := by decide
theorem tI_129 : (129 : Int32).toInt = 129 := by decide
theorem tI_130 : (130 : Int32).toInt = 130 := by decide
theorem tI_131 : (131 : Int32).toInt = 131 := by decide
theorem tI_132 : (132 : Int32).toInt = 132 := by decide
theorem tI_133 : (133 : Int32).toInt = 133 := by decide
theorem tI_134 : (134 : Int32).toInt = 134 := by decide
theorem tI_135 : (135 : Int32).toInt = 135 := by decide
theorem tI_136 : (136 : Int32).toInt = 136 := by decide
theorem tI_137 : (137 : Int32).toInt = 137 := by decide
theorem tI_138 : (138 : Int32).toInt = 138 := by decide
theorem tI_139 : (139 : Int32).toInt = 139 := by decide
theorem tI_140 : (140 : Int32).toInt = 140 := by decide
theorem tI_141 : (141 : Int32).toInt = 141 := by decide
theorem tI_142 : (142 : Int32).toInt = 142 := by decide
theorem tI_143 : (143 : Int32).toInt = 143 := by decide
theorem tI_144 : (144 : Int32).toInt = 144 := by decide
theorem tI_145 : (145 : Int32).toInt = 145 := by decide
theorem tI_146 : (146 : Int32).toInt = 146 := by decide
theorem tI_147 : (147 : Int32).toInt = 147 := by decide
theorem tI_148 : (148 : Int32).toInt = 148 := by decide
theorem tI_149 : (149 : Int32).toInt = 149 := by decide
theorem tI_150 : (150 : Int32).toInt = 150 := by decide
theorem tI_151 : (151 : Int32).toInt = 151 := by decide
theorem tI_152 : (152 : Int32).toInt = 152 := by decide
theorem tI_153 : (153 : Int32).toInt = 153 := by decide
theorem tI_154 : (154 : Int32).toInt = 154 := by decide
theorem tI_155 : (155 : Int32).toInt = 155 := by decide
theorem tI_156 : (156 : Int32).toInt = 156 := by decide
theorem tI_157 : (157 : Int32).toInt = 157 := by decide
theorem tI_158 : (158 : Int32).toInt = 158 := by decide
theorem tI_159 : (159 : Int32).toInt = 159 := by decide
theorem tI_160 : (160 : Int32).toInt = 160 := by decide
theorem tI_161 : (161 : Int32).toInt = 161 := by decide
theorem tI_162 : (162 : Int32).toInt = 162 := by decide
theorem tI_163 : (163 : Int32).toInt = 163 := by decide
theorem tI_164 : (164 : Int32).toInt = 164 := by decide
theorem tI_165 : (165 : Int32).toInt = 165 := by decide
theorem tI_166 : (166 : Int32).toInt = 166 := by decide
theorem tI_167 : (167 : Int32).toInt = 167 := by decide
theorem tI_168 : (168 : Int32).toInt = 168 := by decide
theorem tI_169 : (169 : Int32).toInt = 169 := by decide
theorem tI_170 : (170 : Int32).toInt = 170 := by decide
theorem tI_171 : (171 : Int32).toInt = 171 := by decide
theorem tI_172 : (172 : Int32).toInt = 172 := by decide
theorem tI_173 : (173 : Int32).toInt = 173 := by decide
theorem tI_174 : (174 : Int32).toInt = 174 := by decide
theorem tI_175 : (175 : Int32).toInt = 175 := by decide
theorem tI_176 : (176 : Int32).toInt = 176 := by decide
theorem tI_177 : (177 : Int32).toInt = 177 := by decide
theorem tI_178 : (178 : Int32).toInt = 178 := by decide
theorem tI_179 : (179 : Int32).toInt = 179 := by decide
theorem tI_180 : (180 : Int32).toInt = 180 := by decide
theorem tI_181 : (181 : Int32).toInt = 181 := by decide
theorem tI_182 : (182 : Int32).toInt = 182 := by decide
theorem tI_183 : (183 : Int32).toInt = 183 := by decide
theorem tI_184 : (184 : Int32).toInt = 184 := by decide
theorem tI_185 : (185 : Int32).toInt = 185 := by decide
theorem tI_186 : (186 : Int32).toInt = 186 := by decide
theorem tI_187 : (187 : Int32).toInt = 187 := by decide
theorem tI_188 : (188 : Int32).toInt = 188 := by decide
theorem tI_189 : (189 : Int32).toInt = 189 := by decide
theorem tI_190 : (190 : Int32).toInt = 190 := by decide
theorem tI_191 : (191 : Int32).toInt = 191 := by decide
theorem tI_192 : (192 : Int32).toInt = 192 := by decide
theorem tI_193 : (193 : Int32).toInt = 193 := by decide
theorem tI_194 : (194 : Int32).toInt = 194 := by decide
theorem tI_195 : (195 : Int32).toInt = 195 := by decide
theorem tI_196 : (196 : Int32).toInt = 196 := by decide
theorem tI_197 : (197 : Int32).toInt = 197 := by decide
theorem tI_198 : (198 : Int32).toInt = 198 := by decide
theorem tI_199 : (199 : Int32).toInt = 199 := by decide
theorem tI_200 : (200 : Int32).toInt = 200 := by decide
theorem tI_201 : (201 : Int32).toInt = 201 := by decide
theorem tI_202 : (202 : Int32).toInt = 202 := by decide
theorem tI_203 : (203 : Int32).toInt = 203 := by decide
theorem tI_204 : (204 : Int32).toInt = 204 := by decide
theorem tI_205 : (205 : Int32).toInt = 205 := by decide
theorem tI_206 : (206 : Int32).toInt = 206 := by decide
theorem tI_207 : (207 : Int32).toInt = 207 := by decide
theorem tI_208 : (208 : Int32).toInt = 208 := by decide
theorem tI_209 : (209 : Int32).toInt = 209 := by decide
theorem tI_210 : (210 : Int32).toInt = 210 := by decide
theorem tI_211 : (211 : Int32).toInt = 211 := by decide
theorem tI_212 : (212 : Int32).toInt = 212 := by decide
theorem tI_213 : (213 : Int32).toInt = 213 := by decide
theorem tI_214 : (214 : Int32).toInt = 214 := by decide
theorem tI_215 : (215 : Int32).toInt = 215 := by decide
theorem tI_216 : (216 : Int32).toInt = 216 := by decide
theorem tI_217 : (217 : Int32).toInt = 217 := by decide
theorem tI_218 : (218 : Int32).toInt = 218 := by decide
theorem tI_219 : (219 : Int32).toInt = 219 := by decide
theorem tI_220 : (220 : Int32).toInt = 220 := by decide
theorem tI_221 : (221 : Int32).toInt = 221 := by decide
theorem tI_222 : (222 : Int32).toInt = 222 := by decide
theorem tI_223 : (223 : Int32).toInt = 223 := by decide
theorem tI_224 : (224 : Int32).toInt = 224 := by decide
theorem tI_225 : (225 : Int32).toInt = 225 := by decide
theorem tI_226 : (226 : Int32).toInt = 226 := by decide
theorem tI_227 : (227 : Int32).toInt = 227 := by decide
theorem tI_228 : (228 : Int32).toInt = 228 := by decide
theorem tI_229 : (229 : Int32).toInt = 229 := by decide
theorem tI_230 : (230 : Int32).toInt = 230 := by decide
theorem tI_231 : (231 : Int32).toInt = 231 := by decide
theorem tI_232 : (232 : Int32).toInt = 232 := by decide
theorem tI_233 : (233 : Int32).toInt = 233 := by decide
theorem tI_234 : (234 : Int32).toInt = 234 := by decide
theorem tI_235 : (235 : Int32).toInt = 235 := by decide
theorem tI_236 : (236 : Int32).toInt = 236 := by decide
theorem tI_237 : (237 : Int32).toInt = 237 := by decide
theorem tI_238 : (238 : Int32).toInt = 238 := by decide
theorem tI_239 : (239 : Int32).toInt = 239 := by decide
theorem tI_240 : (240 : Int32).toInt = 240 := by decide
theorem tI_241 : (241 : Int32).toInt = 241 := by decide
theorem tI_242 : (242 : Int32).toInt = 242 := by decide
theorem tI_243 : (243 : Int32).toInt = 243 := by decide
theorem tI_244 : (244 : Int32).toInt = 244 := by decide
theorem tI_245 : (245 : Int32).toInt = 245 := by decide
theorem tI_246 : (246 : Int32).toInt = 246 := by decide
theorem tI_247 : (247 : Int32).toInt = 247 := by decide
theorem tI_248 : (248 : Int32).toInt = 248 := by decide
theorem tI_249 : (249 : Int32).toInt = 249 := by decide
theorem tI_250 : (250 : Int32).toInt = 250 := by decide
theorem tI_251 : (251 : Int32).toInt = 251 := by decide
theorem tI_252 : (252 : Int32).toInt = 252 := by decide
theorem tI_253 : (253 : Int32).toInt = 253 := by decide
theorem tI_254 : (254 : Int32).toInt = 254 := by decide
theorem tI_255 : (255 : Int32).toInt = 255 := by decide
theorem tI_256 : (256 : Int32).toInt = 256 := by decide
theorem tI_257 : (257 : Int32).toInt = 257 := by decide
theorem tI_258 : (258 : Int32).toInt = 258 := by decide
theorem tI_259 : (259 : Int32).toInt = 259 := by decide
theorem tI_300 : (300 : Int32).toInt = 300 := by decide
theorem tI_320 : (320 : Int32).toInt = 320 := by decide
theorem tI_400 : (400 : Int32).toInt = 400 := by decide
theorem tI_420 : (420 : Int32).toInt = 420 := by decide
theorem tI_480 : (480 : Int32).toInt = 480 := by decide
theorem tI_512 : (512 : Int32).toInt = 512 := by decide
theorem tI_960 : (960 : Int32).toInt = 960 := by decide
theorem tI_1024 : (1024 : Int32).toInt = 1024 := by decide
theorem tI_1440 : (1440 : Int32).toInt = 1440 := by decide
theorem tI_1600 : (1600 : Int32).toInt = 1600 := by decide
theorem tI_2400 : (2400 : Int32).toInt = 2400 := by decide
theorem tI_3200 : (3200 : Int32).toInt = 3200 := by decide
theorem tI_3840 : (3840 : Int32).toInt = 3840 := by decide
theorem tI_3999 : (3999 : Int32).toInt = 3999 := by decide
theorem tI_4000 : (4000 : Int32).toInt = 4000 := by decide
theorem tI_4800 : (4800 : Int32).toInt = 4800 := by decide
theorem tI_99999 : (99999 : Int32).toInt = 99999 := by decide
theorem tI_2147483647 : (2147483647 : Int32).toInt = 2147483647 := by decide
