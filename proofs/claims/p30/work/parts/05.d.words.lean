/-! words of the tables by their places -/
set_option maxRecDepth 100000 in
theorem w_172d3848 : (Jvm.Cond.methodLink "VerseCommittee$Rendering" (86 : Nat) ({ cls := "VerseCommittee$Rendering", name := "leftBits", desc := "()I" } : Jvm.MethodName)) ∈ BIG := tb_6 231 rfl rfl
set_option maxRecDepth 100000 in
theorem w_d3eb2339 : (Jvm.Cond.instanceMethod ({ cls := "VerseCommittee$Rendering", name := "leftBits", desc := "()I" } : Jvm.MethodName)) ∈ BIG := tb_6 233 rfl rfl
set_option maxRecDepth 100000 in
theorem w_61792530 : (Jvm.Cond.code ({ cls := "VerseCommittee$Rendering", name := "leftBits", desc := "()I" } : Jvm.MethodName) prog_9_method_25_code (3 : Nat) (Option.some Jvm.ClassFile.FieldType.int)) ∈ BIG := tb_6 234 rfl rfl
set_option maxRecDepth 100000 in
theorem w_8599157e : (Jvm.Cond.methodLink "VerseCommittee$Rendering" (89 : Nat) ({ cls := "VerseCommittee$Rendering", name := "tellSlot", desc := "(I)I" } : Jvm.MethodName)) ∈ BIG := tb_6 235 rfl rfl
set_option maxRecDepth 100000 in
theorem w_f3945e3a : (Jvm.Cond.instanceMethod ({ cls := "VerseCommittee$Rendering", name := "tellSlot", desc := "(I)I" } : Jvm.MethodName)) ∈ BIG := tb_6 237 rfl rfl
set_option maxRecDepth 100000 in
theorem w_346b0db8 : (Jvm.Cond.code ({ cls := "VerseCommittee$Rendering", name := "tellSlot", desc := "(I)I" } : Jvm.MethodName) prog_9_method_27_code (2 : Nat) (Option.some Jvm.ClassFile.FieldType.int)) ∈ BIG := tb_6 238 rfl rfl
set_option maxRecDepth 100000 in
theorem w_7c9a983f : (Jvm.Cond.methodLink "VerseCommittee$Rendering" (92 : Nat) ({ cls := "VerseCommittee$Rendering", name := "turnAt", desc := "(I)I" } : Jvm.MethodName)) ∈ BIG := tb_6 239 rfl rfl
set_option maxRecDepth 100000 in
theorem w_c5a3b51c : (Jvm.Cond.methodLink "VerseCommitteeLaw" (177 : Nat) ({ cls := "VerseCommittee", name := "count", desc := "(I)I" } : Jvm.MethodName)) ∈ BIG := tb_7 0 rfl rfl
set_option maxRecDepth 100000 in
theorem w_89842ad9 : (Jvm.Cond.instanceMethod ({ cls := "VerseCommittee", name := "count", desc := "(I)I" } : Jvm.MethodName)) ∈ BIG := tb_7 1 rfl rfl
set_option maxRecDepth 100000 in
theorem w_cb4fccf1 : (Jvm.Cond.selects "VerseCommittee" ({ cls := "VerseCommittee", name := "count", desc := "(I)I" } : Jvm.MethodName) ({ cls := "VerseCommittee", name := "count", desc := "(I)I" } : Jvm.MethodName)) ∈ BIG := tb_7 2 rfl rfl
set_option maxRecDepth 100000 in
theorem w_f2eeb705 : (Jvm.Cond.code ({ cls := "VerseCommittee", name := "count", desc := "(I)I" } : Jvm.MethodName) prog_1_method_40_code (2 : Nat) (Option.some Jvm.ClassFile.FieldType.int)) ∈ BIG := tb_7 3 rfl rfl
set_option maxRecDepth 100000 in
theorem w_fc2cb27e : (Jvm.Cond.methodLink "VerseCommittee" (385 : Nat) ({ cls := "VerseCommittee$Words", name := "size", desc := "()I" } : Jvm.MethodName)) ∈ BIG := tb_7 4 rfl rfl
set_option maxRecDepth 100000 in
theorem w_50239e31 : (Jvm.Cond.instanceMethod ({ cls := "VerseCommittee$Words", name := "size", desc := "()I" } : Jvm.MethodName)) ∈ BIG := tb_7 5 rfl rfl
set_option maxRecDepth 100000 in
theorem w_ffef6708 : (Jvm.Cond.selects "VerseCommittee$Words" ({ cls := "VerseCommittee$Words", name := "size", desc := "()I" } : Jvm.MethodName) ({ cls := "VerseCommittee$Words", name := "size", desc := "()I" } : Jvm.MethodName)) ∈ BIG := tb_7 6 rfl rfl
set_option maxRecDepth 100000 in
theorem w_5641d231 : (Jvm.Cond.code ({ cls := "VerseCommittee$Words", name := "size", desc := "()I" } : Jvm.MethodName) prog_12_method_2_code (1 : Nat) (Option.some Jvm.ClassFile.FieldType.int)) ∈ BIG := tb_7 7 rfl rfl
set_option maxRecDepth 100000 in
theorem w_3d4ee636 : (Jvm.Cond.methodLink "VerseCommittee" (386 : Nat) ({ cls := "VerseCommittee$People", name := "companies", desc := "()I" } : Jvm.MethodName)) ∈ BIG := tb_7 8 rfl rfl
set_option maxRecDepth 100000 in
theorem w_920b7440 : (Jvm.Cond.methodLink "VerseCommittee" (389 : Nat) ({ cls := "VerseCommittee$People", name := "scholars", desc := "()I" } : Jvm.MethodName)) ∈ BIG := tb_7 9 rfl rfl
set_option maxRecDepth 100000 in
theorem w_b73cdfec : (Jvm.Cond.instanceMethod ({ cls := "VerseCommittee$People", name := "scholars", desc := "()I" } : Jvm.MethodName)) ∈ BIG := tb_7 10 rfl rfl
set_option maxRecDepth 100000 in
theorem w_6eff2b84 : (Jvm.Cond.selects "VerseCommittee$People" ({ cls := "VerseCommittee$People", name := "scholars", desc := "()I" } : Jvm.MethodName) ({ cls := "VerseCommittee$People", name := "scholars", desc := "()I" } : Jvm.MethodName)) ∈ BIG := tb_7 11 rfl rfl
set_option maxRecDepth 100000 in
theorem w_5647178f : (Jvm.Cond.code ({ cls := "VerseCommittee$People", name := "scholars", desc := "()I" } : Jvm.MethodName) prog_6_method_3_code (1 : Nat) (Option.some Jvm.ClassFile.FieldType.int)) ∈ BIG := tb_7 12 rfl rfl
set_option maxRecDepth 100000 in
theorem w_ae690209 : (Jvm.Cond.methodLink "VerseCommittee" (392 : Nat) ({ cls := "VerseCommittee$Laws", name := "size", desc := "()I" } : Jvm.MethodName)) ∈ BIG := tb_7 13 rfl rfl
set_option maxRecDepth 100000 in
theorem w_6a5d06c2 : (Jvm.Cond.methodLink "VerseCommittee" (393 : Nat) ({ cls := "VerseCommittee$Shelf", name := "size", desc := "()I" } : Jvm.MethodName)) ∈ BIG := tb_7 14 rfl rfl
set_option maxRecDepth 100000 in
theorem w_a9a1b0f9 : (Jvm.Cond.instanceMethod ({ cls := "VerseCommittee$Shelf", name := "size", desc := "()I" } : Jvm.MethodName)) ∈ BIG := tb_7 15 rfl rfl
set_option maxRecDepth 100000 in
theorem w_e7696115 : (Jvm.Cond.selects "VerseCommittee$Shelf" ({ cls := "VerseCommittee$Shelf", name := "size", desc := "()I" } : Jvm.MethodName) ({ cls := "VerseCommittee$Shelf", name := "size", desc := "()I" } : Jvm.MethodName)) ∈ BIG := tb_7 16 rfl rfl
set_option maxRecDepth 100000 in
theorem w_d2345fe8 : (Jvm.Cond.code ({ cls := "VerseCommittee$Shelf", name := "size", desc := "()I" } : Jvm.MethodName) prog_10_method_2_code (1 : Nat) (Option.some Jvm.ClassFile.FieldType.int)) ∈ BIG := tb_7 17 rfl rfl
set_option maxRecDepth 100000 in
theorem w_a8406db3 : (Jvm.Cond.methodLink "VerseCommittee" (394 : Nat) ({ cls := "VerseCommittee$Choices", name := "size", desc := "()I" } : Jvm.MethodName)) ∈ BIG := tb_7 18 rfl rfl
set_option maxRecDepth 100000 in
theorem w_5d8ed636 : (Jvm.Cond.instanceMethod ({ cls := "VerseCommittee$Choices", name := "size", desc := "()I" } : Jvm.MethodName)) ∈ BIG := tb_7 19 rfl rfl
set_option maxRecDepth 100000 in
theorem w_71f1c1ea : (Jvm.Cond.selects "VerseCommittee$Choices" ({ cls := "VerseCommittee$Choices", name := "size", desc := "()I" } : Jvm.MethodName) ({ cls := "VerseCommittee$Choices", name := "size", desc := "()I" } : Jvm.MethodName)) ∈ BIG := tb_7 20 rfl rfl
set_option maxRecDepth 100000 in
theorem w_ac45d541 : (Jvm.Cond.code ({ cls := "VerseCommittee$Choices", name := "size", desc := "()I" } : Jvm.MethodName) prog_2_method_2_code (1 : Nat) (Option.some Jvm.ClassFile.FieldType.int)) ∈ BIG := tb_7 21 rfl rfl
set_option maxRecDepth 100000 in
theorem w_c9aecfd7 : (Jvm.Cond.methodLink "VerseCommittee" (395 : Nat) ({ cls := "VerseCommittee$Shelf", name := "fixedVerses", desc := "()I" } : Jvm.MethodName)) ∈ BIG := tb_7 22 rfl rfl
set_option maxRecDepth 100000 in
theorem w_c847323e : (Jvm.Cond.instanceMethod ({ cls := "VerseCommittee$Shelf", name := "fixedVerses", desc := "()I" } : Jvm.MethodName)) ∈ BIG := tb_7 23 rfl rfl
set_option maxRecDepth 100000 in
theorem w_2cb1a62c : (Jvm.Cond.selects "VerseCommittee$Shelf" ({ cls := "VerseCommittee$Shelf", name := "fixedVerses", desc := "()I" } : Jvm.MethodName) ({ cls := "VerseCommittee$Shelf", name := "fixedVerses", desc := "()I" } : Jvm.MethodName)) ∈ BIG := tb_7 24 rfl rfl
set_option maxRecDepth 100000 in
theorem w_05d0163a : (Jvm.Cond.code ({ cls := "VerseCommittee$Shelf", name := "fixedVerses", desc := "()I" } : Jvm.MethodName) prog_10_method_9_code (3 : Nat) (Option.some Jvm.ClassFile.FieldType.int)) ∈ BIG := tb_7 25 rfl rfl
set_option maxRecDepth 100000 in
theorem w_230ad3d0 : (Jvm.Cond.methodLink "VerseCommittee" (398 : Nat) ({ cls := "VerseCommittee$Shelf", name := "inState", desc := "(I)I" } : Jvm.MethodName)) ∈ BIG := tb_7 26 rfl rfl
set_option maxRecDepth 100000 in
theorem w_d58ff08f : (Jvm.Cond.instanceMethod ({ cls := "VerseCommittee$Shelf", name := "inState", desc := "(I)I" } : Jvm.MethodName)) ∈ BIG := tb_7 27 rfl rfl
set_option maxRecDepth 100000 in
theorem w_e7c01bf3 : (Jvm.Cond.selects "VerseCommittee$Shelf" ({ cls := "VerseCommittee$Shelf", name := "inState", desc := "(I)I" } : Jvm.MethodName) ({ cls := "VerseCommittee$Shelf", name := "inState", desc := "(I)I" } : Jvm.MethodName)) ∈ BIG := tb_7 28 rfl rfl
set_option maxRecDepth 100000 in
theorem w_e34a0fc3 : (Jvm.Cond.code ({ cls := "VerseCommittee$Shelf", name := "inState", desc := "(I)I" } : Jvm.MethodName) prog_10_method_10_code (5 : Nat) (Option.some Jvm.ClassFile.FieldType.int)) ∈ BIG := tb_7 29 rfl rfl
set_option maxRecDepth 100000 in
theorem w_5388a70a : (Jvm.Cond.methodLink "VerseCommitteeLaw" (12 : Nat) ({ cls := "VerseCommitteeModel", name := "<init>", desc := "()V" } : Jvm.MethodName)) ∈ BIG := tb_7 32 rfl rfl
set_option maxRecDepth 100000 in
theorem w_d19c1532 : (Jvm.Cond.instanceMethod ({ cls := "VerseCommitteeModel", name := "<init>", desc := "()V" } : Jvm.MethodName)) ∈ BIG := tb_7 33 rfl rfl
set_option maxRecDepth 100000 in
theorem w_a183a901 : (Jvm.Cond.code ({ cls := "VerseCommitteeModel", name := "<init>", desc := "()V" } : Jvm.MethodName) prog_14_method_1_code (1 : Nat) (Option.none : Option Jvm.ClassFile.FieldType)) ∈ BIG := tb_7 34 rfl rfl
set_option maxRecDepth 100000 in
theorem w_7386363c : (Jvm.Cond.methodLink "VerseCommitteeModel" (1 : Nat) ({ cls := "java/lang/Object", name := "<init>", desc := "()V" } : Jvm.MethodName)) ∈ BIG := tb_7 35 rfl rfl
set_option maxRecDepth 100000 in
theorem w_49c95b56 : (Jvm.Cond.fieldLink "VerseCommitteeModel" (7 : Nat) "VerseCommitteeModel" "tape" "[B") ∈ BIG := tb_7 36 rfl rfl
set_option maxRecDepth 100000 in
theorem w_0bfb8545 : (Jvm.Cond.fieldLink "VerseCommitteeModel" (224 : Nat) "VerseCommitteeModel" "taped" "I") ∈ BIG := tb_7 37 rfl rfl
set_option maxRecDepth 100000 in
theorem w_32a61094 : (Jvm.Cond.fieldLink "VerseCommitteeModel" (221 : Nat) "VerseCommitteeModel" "now" "I") ∈ BIG := tb_7 38 rfl rfl
set_option maxRecDepth 100000 in
theorem w_9ad6d0ed : (Jvm.Cond.fieldLink "VerseCommitteeModel" (210 : Nat) "VerseCommitteeModel" "verses" "I") ∈ BIG := tb_7 39 rfl rfl
set_option maxRecDepth 100000 in
theorem w_0bd220f6 : (Jvm.Cond.fieldLink "VerseCommitteeModel" (218 : Nat) "VerseCommitteeModel" "words" "I") ∈ BIG := tb_7 40 rfl rfl
set_option maxRecDepth 100000 in
theorem w_d5d087f9 : (Jvm.Cond.fieldLink "VerseCommitteeModel" (256 : Nat) "VerseCommitteeModel" "companies" "I") ∈ BIG := tb_7 41 rfl rfl
set_option maxRecDepth 100000 in
theorem w_9c277d0d : (Jvm.Cond.fieldLink "VerseCommitteeModel" (262 : Nat) "VerseCommitteeModel" "scholars" "I") ∈ BIG := tb_7 42 rfl rfl
set_option maxRecDepth 100000 in
theorem w_68ce3fdb : (Jvm.Cond.fieldLink "VerseCommitteeModel" (281 : Nat) "VerseCommitteeModel" "rules" "I") ∈ BIG := tb_7 43 rfl rfl
set_option maxRecDepth 100000 in
theorem w_c699ae08 : (Jvm.Cond.fieldLink "VerseCommitteeModel" (421 : Nat) "VerseCommitteeModel" "renderings" "I") ∈ BIG := tb_7 44 rfl rfl
set_option maxRecDepth 100000 in
theorem w_7af0f4c9 : (Jvm.Cond.fieldLink "VerseCommitteeModel" (259 : Nat) "VerseCommitteeModel" "centreRate" "I") ∈ BIG := tb_7 45 rfl rfl
set_option maxRecDepth 100000 in
theorem w_f063964a : (Jvm.Cond.fieldLink "VerseCommitteeModel" (13 : Nat) "VerseCommitteeModel" "book" "[I") ∈ BIG := tb_7 46 rfl rfl
set_option maxRecDepth 100000 in
theorem w_5fedb2a3 : (Jvm.Cond.fieldLink "VerseCommitteeModel" (17 : Nat) "VerseCommitteeModel" "measure" "[I") ∈ BIG := tb_7 47 rfl rfl
set_option maxRecDepth 100000 in
theorem w_5372e528 : (Jvm.Cond.fieldLink "VerseCommitteeModel" (20 : Nat) "VerseCommitteeModel" "size" "[I") ∈ BIG := tb_7 48 rfl rfl
set_option maxRecDepth 100000 in
theorem w_29fe991c : (Jvm.Cond.fieldLink "VerseCommitteeModel" (23 : Nat) "VerseCommitteeModel" "token" "[I") ∈ BIG := tb_7 49 rfl rfl
set_option maxRecDepth 100000 in
theorem w_fa7b8961 : (Jvm.Cond.fieldLink "VerseCommitteeModel" (26 : Nat) "VerseCommitteeModel" "spelledMany" "[I") ∈ BIG := tb_7 50 rfl rfl
set_option maxRecDepth 100000 in
theorem w_36f70e6c : (Jvm.Cond.fieldLink "VerseCommitteeModel" (29 : Nat) "VerseCommitteeModel" "spelled" "[B") ∈ BIG := tb_7 51 rfl rfl
set_option maxRecDepth 100000 in
theorem w_b1155243 : (Jvm.Cond.fieldLink "VerseCommitteeModel" (32 : Nat) "VerseCommitteeModel" "books" "[I") ∈ BIG := tb_7 52 rfl rfl
set_option maxRecDepth 100000 in
theorem w_115ab7a6 : (Jvm.Cond.fieldLink "VerseCommitteeModel" (35 : Nat) "VerseCommitteeModel" "rate" "[I") ∈ BIG := tb_7 53 rfl rfl
set_option maxRecDepth 100000 in
theorem w_037b5fcc : (Jvm.Cond.fieldLink "VerseCommitteeModel" (38 : Nat) "VerseCommitteeModel" "scholarOf" "[I") ∈ BIG := tb_7 54 rfl rfl
set_option maxRecDepth 100000 in
theorem w_e2c82566 : (Jvm.Cond.fieldLink "VerseCommitteeModel" (41 : Nat) "VerseCommitteeModel" "isCentre" "[Z") ∈ BIG := tb_7 55 rfl rfl
set_option maxRecDepth 100000 in
theorem w_ce72b4b3 : (Jvm.Cond.fieldLink "VerseCommitteeModel" (45 : Nat) "VerseCommitteeModel" "isVoid" "[Z") ∈ BIG := tb_7 56 rfl rfl
set_option maxRecDepth 100000 in
theorem w_91d7c41c : (Jvm.Cond.fieldLink "VerseCommitteeModel" (48 : Nat) "VerseCommitteeModel" "own" "[B") ∈ BIG := tb_7 57 rfl rfl
set_option maxRecDepth 100000 in
theorem w_211f589d : (Jvm.Cond.fieldLink "VerseCommitteeModel" (51 : Nat) "VerseCommitteeModel" "ownMany" "[I") ∈ BIG := tb_7 58 rfl rfl
set_option maxRecDepth 100000 in
theorem w_3cbdf6f8 : (Jvm.Cond.fieldLink "VerseCommitteeModel" (54 : Nat) "VerseCommitteeModel" "ruleFor" "[I") ∈ BIG := tb_7 59 rfl rfl
set_option maxRecDepth 100000 in
theorem w_61944dea : (Jvm.Cond.fieldLink "VerseCommitteeModel" (57 : Nat) "VerseCommitteeModel" "ruleFrom" "[I") ∈ BIG := tb_7 60 rfl rfl
set_option maxRecDepth 100000 in
theorem w_8a5f6650 : (Jvm.Cond.fieldLink "VerseCommitteeModel" (60 : Nat) "VerseCommitteeModel" "ruleTo" "[I") ∈ BIG := tb_7 61 rfl rfl
set_option maxRecDepth 100000 in
theorem w_85b2fdb2 : (Jvm.Cond.fieldLink "VerseCommitteeModel" (63 : Nat) "VerseCommitteeModel" "clauses" "[I") ∈ BIG := tb_7 62 rfl rfl
set_option maxRecDepth 100000 in
theorem w_017bcf4c : (Jvm.Cond.fieldLink "VerseCommitteeModel" (66 : Nat) "VerseCommitteeModel" "letter" "[I") ∈ BIG := tb_7 63 rfl rfl
set_option maxRecDepth 100000 in
theorem w_e3c45117 : (Jvm.Cond.fieldLink "VerseCommitteeModel" (69 : Nat) "VerseCommitteeModel" "first" "[I") ∈ BIG := tb_7 64 rfl rfl
set_option maxRecDepth 100000 in
theorem w_c485ba1f : (Jvm.Cond.fieldLink "VerseCommitteeModel" (72 : Nat) "VerseCommitteeModel" "second" "[I") ∈ BIG := tb_7 65 rfl rfl
set_option maxRecDepth 100000 in
theorem w_aa1c3476 : (Jvm.Cond.fieldLink "VerseCommitteeModel" (75 : Nat) "VerseCommitteeModel" "third" "[I") ∈ BIG := tb_7 66 rfl rfl
set_option maxRecDepth 100000 in
theorem w_eadf4d4c : (Jvm.Cond.fieldLink "VerseCommitteeModel" (78 : Nat) "VerseCommitteeModel" "codeFrom" "[I") ∈ BIG := tb_7 67 rfl rfl
set_option maxRecDepth 100000 in
theorem w_b25159d5 : (Jvm.Cond.fieldLink "VerseCommitteeModel" (81 : Nat) "VerseCommitteeModel" "codeTo" "[I") ∈ BIG := tb_7 68 rfl rfl
set_option maxRecDepth 100000 in
theorem w_02a7548d : (Jvm.Cond.fieldLink "VerseCommitteeModel" (84 : Nat) "VerseCommitteeModel" "code" "[I") ∈ BIG := tb_7 69 rfl rfl
set_option maxRecDepth 100000 in
theorem w_0e4ca46a : (Jvm.Cond.fieldLink "VerseCommitteeModel" (87 : Nat) "VerseCommitteeModel" "codeArg" "[I") ∈ BIG := tb_7 70 rfl rfl
set_option maxRecDepth 100000 in
theorem w_d6fbcbab : (Jvm.Cond.fieldLink "VerseCommitteeModel" (268 : Nat) "VerseCommitteeModel" "place" "I") ∈ BIG := tb_7 71 rfl rfl
set_option maxRecDepth 100000 in
theorem w_9df9bf82 : (Jvm.Cond.fieldLink "VerseCommitteeModel" (271 : Nat) "VerseCommitteeModel" "end" "I") ∈ BIG := tb_7 72 rfl rfl
set_option maxRecDepth 100000 in
theorem w_f3f48545 : (Jvm.Cond.fieldLink "VerseCommitteeModel" (274 : Nat) "VerseCommitteeModel" "bad" "I") ∈ BIG := tb_7 73 rfl rfl
set_option maxRecDepth 100000 in
theorem w_178378a3 : (Jvm.Cond.fieldLink "VerseCommitteeModel" (364 : Nat) "VerseCommitteeModel" "many" "I") ∈ BIG := tb_7 74 rfl rfl
set_option maxRecDepth 100000 in
theorem w_b2f94f4e : (Jvm.Cond.fieldLink "VerseCommitteeModel" (284 : Nat) "VerseCommitteeModel" "codes" "I") ∈ BIG := tb_7 75 rfl rfl
set_option maxRecDepth 100000 in
theorem w_0b8fdea7 : (Jvm.Cond.fieldLink "VerseCommitteeModel" (290 : Nat) "VerseCommitteeModel" "open" "I") ∈ BIG := tb_7 76 rfl rfl
set_option maxRecDepth 100000 in
theorem w_71a29a11 : (Jvm.Cond.fieldLink "VerseCommitteeModel" (287 : Nat) "VerseCommitteeModel" "depth" "I") ∈ BIG := tb_7 77 rfl rfl
set_option maxRecDepth 100000 in
theorem w_9cdfd9c9 : (Jvm.Cond.fieldLink "VerseCommitteeModel" (352 : Nat) "VerseCommitteeModel" "isDone" "Z") ∈ BIG := tb_7 78 rfl rfl
set_option maxRecDepth 100000 in
theorem w_e94c2fe4 : (Jvm.Cond.fieldLink "VerseCommitteeModel" (333 : Nat) "VerseCommitteeModel" "isBehind" "Z") ∈ BIG := tb_7 79 rfl rfl
set_option maxRecDepth 100000 in
theorem w_0cff11dd : (Jvm.Cond.fieldLink "VerseCommitteeModel" (90 : Nat) "VerseCommitteeModel" "stack" "[I") ∈ BIG := tb_7 80 rfl rfl
set_option maxRecDepth 100000 in
theorem w_50dc7823 : (Jvm.Cond.fieldLink "VerseCommitteeModel" (93 : Nat) "VerseCommitteeModel" "value" "[I") ∈ BIG := tb_7 81 rfl rfl
set_option maxRecDepth 100000 in
theorem w_2968f610 : (Jvm.Cond.fieldLink "VerseCommitteeModel" (96 : Nat) "VerseCommitteeModel" "isRefused" "[Z") ∈ BIG := tb_7 82 rfl rfl
set_option maxRecDepth 100000 in
theorem w_3c355df5 : (Jvm.Cond.fieldLink "VerseCommitteeModel" (99 : Nat) "VerseCommitteeModel" "rowA" "[I") ∈ BIG := tb_7 83 rfl rfl
set_option maxRecDepth 100000 in
theorem w_1e1561fa : (Jvm.Cond.fieldLink "VerseCommitteeModel" (102 : Nat) "VerseCommitteeModel" "rowB" "[I") ∈ BIG := tb_7 84 rfl rfl
set_option maxRecDepth 100000 in
theorem w_96a3ff5c : (Jvm.Cond.fieldLink "VerseCommitteeModel" (105 : Nat) "VerseCommitteeModel" "least" "[I") ∈ BIG := tb_7 85 rfl rfl
set_option maxRecDepth 100000 in
theorem w_b16771e9 : (Jvm.Cond.fieldLink "VerseCommitteeModel" (108 : Nat) "VerseCommitteeModel" "rScholar" "[I") ∈ BIG := tb_7 86 rfl rfl
set_option maxRecDepth 100000 in
theorem w_7fa6e778 : (Jvm.Cond.fieldLink "VerseCommitteeModel" (111 : Nat) "VerseCommitteeModel" "rVerse" "[I") ∈ BIG := tb_7 87 rfl rfl
set_option maxRecDepth 100000 in
theorem w_845d3a25 : (Jvm.Cond.fieldLink "VerseCommitteeModel" (114 : Nat) "VerseCommitteeModel" "rState" "[I") ∈ BIG := tb_7 88 rfl rfl
set_option maxRecDepth 100000 in
theorem w_49e7fee7 : (Jvm.Cond.fieldLink "VerseCommitteeModel" (117 : Nat) "VerseCommitteeModel" "rDay" "[I") ∈ BIG := tb_7 89 rfl rfl
set_option maxRecDepth 100000 in
theorem w_7da9afc7 : (Jvm.Cond.fieldLink "VerseCommitteeModel" (120 : Nat) "VerseCommitteeModel" "rCopy" "[I") ∈ BIG := tb_7 90 rfl rfl
set_option maxRecDepth 100000 in
theorem w_891d222c : (Jvm.Cond.fieldLink "VerseCommitteeModel" (123 : Nat) "VerseCommitteeModel" "rTokens" "[I") ∈ BIG := tb_7 91 rfl rfl
set_option maxRecDepth 100000 in
theorem w_5dd80805 : (Jvm.Cond.fieldLink "VerseCommitteeModel" (126 : Nat) "VerseCommitteeModel" "rToken" "[I") ∈ BIG := tb_7 92 rfl rfl
set_option maxRecDepth 100000 in
theorem w_762b0631 : (Jvm.Cond.fieldLink "VerseCommitteeModel" (129 : Nat) "VerseCommitteeModel" "rSlots" "[I") ∈ BIG := tb_7 93 rfl rfl
set_option maxRecDepth 100000 in
theorem w_f7a5254f : (Jvm.Cond.fieldLink "VerseCommitteeModel" (132 : Nat) "VerseCommitteeModel" "rWord" "[I") ∈ BIG := tb_7 94 rfl rfl
set_option maxRecDepth 100000 in
theorem w_d8a8ef07 : (Jvm.Cond.fieldLink "VerseCommitteeModel" (135 : Nat) "VerseCommitteeModel" "rTurns" "[I") ∈ BIG := tb_7 95 rfl rfl
set_option maxRecDepth 100000 in
theorem w_7678f77a : (Jvm.Cond.fieldLink "VerseCommitteeModel" (138 : Nat) "VerseCommitteeModel" "rFixedDay" "[I") ∈ BIG := tb_7 96 rfl rfl
set_option maxRecDepth 100000 in
theorem w_6fc13e8c : (Jvm.Cond.fieldLink "VerseCommitteeModel" (141 : Nat) "VerseCommitteeModel" "yes" "[I") ∈ BIG := tb_7 97 rfl rfl
set_option maxRecDepth 100000 in
theorem w_9cafe9ab : (Jvm.Cond.fieldLink "VerseCommitteeModel" (144 : Nat) "VerseCommitteeModel" "all" "[I") ∈ BIG := tb_7 98 rfl rfl
set_option maxRecDepth 100000 in
theorem w_9260ba25 : (Jvm.Cond.fieldLink "VerseCommitteeModel" (147 : Nat) "VerseCommitteeModel" "hundredths" "[I") ∈ BIG := tb_7 99 rfl rfl
set_option maxRecDepth 100000 in
theorem w_3ab348eb : (Jvm.Cond.fieldLink "VerseCommitteeModel" (150 : Nat) "VerseCommitteeModel" "votedThen" "[I") ∈ BIG := tb_7 100 rfl rfl
set_option maxRecDepth 100000 in
theorem w_948dbad4 : (Jvm.Cond.fieldLink "VerseCommitteeModel" (153 : Nat) "VerseCommitteeModel" "yesThen" "[I") ∈ BIG := tb_7 101 rfl rfl
set_option maxRecDepth 100000 in
theorem w_8d3921ee : (Jvm.Cond.fieldLink "VerseCommitteeModel" (156 : Nat) "VerseCommitteeModel" "voted" "[I") ∈ BIG := tb_7 102 rfl rfl
set_option maxRecDepth 100000 in
theorem w_1c54610a : (Jvm.Cond.fieldLink "VerseCommitteeModel" (159 : Nat) "VerseCommitteeModel" "saidYes" "[I") ∈ BIG := tb_7 103 rfl rfl
set_option maxRecDepth 100000 in
theorem w_d16e6520 : (Jvm.Cond.fieldLink "VerseCommitteeModel" (433 : Nat) "VerseCommitteeModel" "tellings" "I") ∈ BIG := tb_7 104 rfl rfl
set_option maxRecDepth 100000 in
theorem w_2722afdd : (Jvm.Cond.fieldLink "VerseCommitteeModel" (162 : Nat) "VerseCommitteeModel" "tVerse" "[I") ∈ BIG := tb_7 105 rfl rfl
set_option maxRecDepth 100000 in
theorem w_7c1e42b2 : (Jvm.Cond.fieldLink "VerseCommitteeModel" (165 : Nat) "VerseCommitteeModel" "tRendering" "[I") ∈ BIG := tb_7 106 rfl rfl
set_option maxRecDepth 100000 in
theorem w_9e484f8b : (Jvm.Cond.fieldLink "VerseCommitteeModel" (168 : Nat) "VerseCommitteeModel" "tDay" "[I") ∈ BIG := tb_7 107 rfl rfl
set_option maxRecDepth 100000 in
theorem w_4315fe6a : (Jvm.Cond.fieldLink "VerseCommitteeModel" (460 : Nat) "VerseCommitteeModel" "foundClause" "I") ∈ BIG := tb_7 108 rfl rfl
set_option maxRecDepth 100000 in
theorem w_6114238b : (Jvm.Cond.fieldLink "VerseCommitteeModel" (463 : Nat) "VerseCommitteeModel" "foundToken" "I") ∈ BIG := tb_7 109 rfl rfl
set_option maxRecDepth 100000 in
theorem w_e95a7bf5 : (Jvm.Cond.fieldLink "VerseCommitteeModel" (472 : Nat) "VerseCommitteeModel" "otherClause" "I") ∈ BIG := tb_7 110 rfl rfl
set_option maxRecDepth 100000 in
theorem w_53ae6292 : (Jvm.Cond.fieldLink "VerseCommitteeModel" (491 : Nat) "VerseCommitteeModel" "twoA" "I") ∈ BIG := tb_7 111 rfl rfl
set_option maxRecDepth 100000 in
theorem w_5fa1a7dc : (Jvm.Cond.fieldLink "VerseCommitteeModel" (497 : Nat) "VerseCommitteeModel" "twoB" "I") ∈ BIG := tb_7 112 rfl rfl
set_option maxRecDepth 100000 in
theorem w_32de5f87 : (Jvm.Cond.fieldLink "VerseCommitteeModel" (494 : Nat) "VerseCommitteeModel" "placeA" "I") ∈ BIG := tb_7 113 rfl rfl
set_option maxRecDepth 100000 in
theorem w_426f40f6 : (Jvm.Cond.fieldLink "VerseCommitteeModel" (500 : Nat) "VerseCommitteeModel" "placeB" "I") ∈ BIG := tb_7 114 rfl rfl
set_option maxRecDepth 100000 in
theorem w_b72016d3 : (Jvm.Cond.fieldLink "VerseCommitteeModel" (171 : Nat) "VerseCommitteeModel" "twos" "[I") ∈ BIG := tb_7 115 rfl rfl
set_option maxRecDepth 100000 in
theorem w_641faa25 : (Jvm.Cond.fieldLink "VerseCommitteeModel" (506 : Nat) "VerseCommitteeModel" "signs" "I") ∈ BIG := tb_7 116 rfl rfl
set_option maxRecDepth 100000 in
theorem w_bd96f7f2 : (Jvm.Cond.fieldLink "VerseCommitteeModel" (174 : Nat) "VerseCommitteeModel" "sign" "[I") ∈ BIG := tb_7 117 rfl rfl
set_option maxRecDepth 100000 in
theorem w_7fd65c04 : (Jvm.Cond.fieldLink "VerseCommitteeModel" (177 : Nat) "VerseCommitteeModel" "options" "[I") ∈ BIG := tb_7 118 rfl rfl
set_option maxRecDepth 100000 in
theorem w_6f63da2f : (Jvm.Cond.fieldLink "VerseCommitteeModel" (180 : Nat) "VerseCommitteeModel" "option" "[I") ∈ BIG := tb_7 119 rfl rfl
set_option maxRecDepth 100000 in
theorem w_e3f8e22a : (Jvm.Cond.fieldLink "VerseCommitteeModel" (183 : Nat) "VerseCommitteeModel" "isApart" "[Z") ∈ BIG := tb_7 120 rfl rfl
set_option maxRecDepth 100000 in
theorem w_5ed2e189 : (Jvm.Cond.fieldLink "VerseCommitteeModel" (186 : Nat) "VerseCommitteeModel" "costs" "[I") ∈ BIG := tb_7 121 rfl rfl
set_option maxRecDepth 100000 in
theorem w_993174b4 : (Jvm.Cond.fieldLink "VerseCommitteeModel" (189 : Nat) "VerseCommitteeModel" "isBarred" "[Z") ∈ BIG := tb_7 122 rfl rfl
set_option maxRecDepth 100000 in
theorem w_a1c15f02 : (Jvm.Cond.fieldLink "VerseCommitteeModel" (192 : Nat) "VerseCommitteeModel" "told" "[I") ∈ BIG := tb_7 123 rfl rfl
set_option maxRecDepth 100000 in
theorem w_b85d3664 : (Jvm.Cond.fieldLink "VerseCommitteeModel" (195 : Nat) "VerseCommitteeModel" "right" "[I") ∈ BIG := tb_7 124 rfl rfl
set_option maxRecDepth 100000 in
theorem w_3bdad674 : (Jvm.Cond.fieldLink "VerseCommitteeModel" (539 : Nat) "VerseCommitteeModel" "printMany" "I") ∈ BIG := tb_7 125 rfl rfl
set_option maxRecDepth 100000 in
theorem w_eddf517a : (Jvm.Cond.fieldLink "VerseCommitteeModel" (198 : Nat) "VerseCommitteeModel" "print" "[B") ∈ BIG := tb_7 126 rfl rfl
set_option maxRecDepth 100000 in
theorem w_dd7e59c2 : (Jvm.Cond.fieldLink "VerseCommitteeModel" (545 : Nat) "VerseCommitteeModel" "openBooks" "I") ∈ BIG := tb_7 127 rfl rfl
set_option maxRecDepth 100000 in
theorem w_b7011d98 : (Jvm.Cond.fieldLink "VerseCommitteeModel" (548 : Nat) "VerseCommitteeModel" "openVerses" "I") ∈ BIG := tb_7 128 rfl rfl
set_option maxRecDepth 100000 in
theorem w_d1ae37dc : (Jvm.Cond.fieldLink "VerseCommitteeModel" (201 : Nat) "VerseCommitteeModel" "openBook" "[I") ∈ BIG := tb_7 129 rfl rfl
set_option maxRecDepth 100000 in
theorem w_b608a55f : (Jvm.Cond.fieldLink "VerseCommitteeModel" (204 : Nat) "VerseCommitteeModel" "openMany" "[I") ∈ BIG := tb_7 130 rfl rfl
set_option maxRecDepth 100000 in
theorem w_a004040e : (Jvm.Cond.fieldLink "VerseCommitteeModel" (207 : Nat) "VerseCommitteeModel" "load" "[I") ∈ BIG := tb_7 131 rfl rfl
set_option maxRecDepth 100000 in
theorem w_ac5a251d : (Jvm.Cond.methodLink "VerseCommitteeLaw" (17 : Nat) ({ cls := "VerseCommitteeModel", name := "now", desc := "(I)Z" } : Jvm.MethodName)) ∈ BIG := tb_8 85 rfl rfl
set_option maxRecDepth 100000 in
theorem w_0abcbf9e : (Jvm.Cond.instanceMethod ({ cls := "VerseCommitteeModel", name := "now", desc := "(I)Z" } : Jvm.MethodName)) ∈ BIG := tb_8 86 rfl rfl
set_option maxRecDepth 100000 in
theorem w_654dca64 : (Jvm.Cond.selects "VerseCommitteeModel" ({ cls := "VerseCommitteeModel", name := "now", desc := "(I)Z" } : Jvm.MethodName) ({ cls := "VerseCommitteeModel", name := "now", desc := "(I)Z" } : Jvm.MethodName)) ∈ BIG := tb_8 87 rfl rfl
set_option maxRecDepth 100000 in
theorem w_4ab3d4c1 : (Jvm.Cond.code ({ cls := "VerseCommitteeModel", name := "now", desc := "(I)Z" } : Jvm.MethodName) prog_14_method_7_code (2 : Nat) (Option.some Jvm.ClassFile.FieldType.boolean)) ∈ BIG := tb_8 88 rfl rfl
set_option maxRecDepth 100000 in
theorem w_22b9d36c : (Jvm.Cond.methodLink "VerseCommitteeModel" (214 : Nat) ({ cls := "VerseCommitteeModel", name := "lies", desc := "(III)Z" } : Jvm.MethodName)) ∈ BIG := tb_8 89 rfl rfl
set_option maxRecDepth 100000 in
theorem w_ba716fe7 : (Jvm.Cond.static ({ cls := "VerseCommitteeModel", name := "lies", desc := "(III)Z" } : Jvm.MethodName)) ∈ BIG := tb_8 90 rfl rfl
set_option maxRecDepth 100000 in
theorem w_801f3e4f : (Jvm.Cond.code ({ cls := "VerseCommitteeModel", name := "lies", desc := "(III)Z" } : Jvm.MethodName) prog_14_method_2_code (3 : Nat) (Option.some Jvm.ClassFile.FieldType.boolean)) ∈ BIG := tb_8 91 rfl rfl
set_option maxRecDepth 100000 in
theorem w_836a4a91 : (Jvm.Cond.methodLink "VerseCommitteeLaw" (22 : Nat) ({ cls := "VerseCommitteeModel", name := "feed", desc := "(IIIII)I" } : Jvm.MethodName)) ∈ BIG := tb_8 92 rfl rfl
set_option maxRecDepth 100000 in
theorem w_eebcd7a9 : (Jvm.Cond.instanceMethod ({ cls := "VerseCommitteeModel", name := "feed", desc := "(IIIII)I" } : Jvm.MethodName)) ∈ BIG := tb_8 93 rfl rfl
set_option maxRecDepth 100000 in
theorem w_91d32a40 : (Jvm.Cond.selects "VerseCommitteeModel" ({ cls := "VerseCommitteeModel", name := "feed", desc := "(IIIII)I" } : Jvm.MethodName) ({ cls := "VerseCommitteeModel", name := "feed", desc := "(IIIII)I" } : Jvm.MethodName)) ∈ BIG := tb_8 94 rfl rfl
set_option maxRecDepth 100000 in
theorem w_27908d2c : (Jvm.Cond.code ({ cls := "VerseCommitteeModel", name := "feed", desc := "(IIIII)I" } : Jvm.MethodName) prog_14_method_9_code (6 : Nat) (Option.some Jvm.ClassFile.FieldType.int)) ∈ BIG := tb_8 95 rfl rfl
set_option maxRecDepth 100000 in
theorem w_7cf70189 : (Jvm.Cond.methodLink "VerseCommitteeModel" (227 : Nat) ({ cls := "VerseCommitteeModel", name := "push", desc := "(I)V" } : Jvm.MethodName)) ∈ BIG := tb_8 96 rfl rfl
set_option maxRecDepth 100000 in
theorem w_4fb25c86 : (Jvm.Cond.instanceMethod ({ cls := "VerseCommitteeModel", name := "push", desc := "(I)V" } : Jvm.MethodName)) ∈ BIG := tb_8 98 rfl rfl
set_option maxRecDepth 100000 in
theorem w_4e368a2a : (Jvm.Cond.code ({ cls := "VerseCommitteeModel", name := "push", desc := "(I)V" } : Jvm.MethodName) prog_14_method_8_code (3 : Nat) (Option.none : Option Jvm.ClassFile.FieldType)) ∈ BIG := tb_8 99 rfl rfl
set_option maxRecDepth 100000 in
theorem w_f867440d : (Jvm.Cond.methodLink "VerseCommitteeLaw" (27 : Nat) ({ cls := "VerseCommitteeModel", name := "verse", desc := "(II)I" } : Jvm.MethodName)) ∈ BIG := tb_8 100 rfl rfl
set_option maxRecDepth 100000 in
theorem w_fea7cff4 : (Jvm.Cond.instanceMethod ({ cls := "VerseCommitteeModel", name := "verse", desc := "(II)I" } : Jvm.MethodName)) ∈ BIG := tb_8 101 rfl rfl
set_option maxRecDepth 100000 in
theorem w_14980fef : (Jvm.Cond.selects "VerseCommitteeModel" ({ cls := "VerseCommitteeModel", name := "verse", desc := "(II)I" } : Jvm.MethodName) ({ cls := "VerseCommitteeModel", name := "verse", desc := "(II)I" } : Jvm.MethodName)) ∈ BIG := tb_8 102 rfl rfl
set_option maxRecDepth 100000 in
theorem w_89fd4800 : (Jvm.Cond.code ({ cls := "VerseCommitteeModel", name := "verse", desc := "(II)I" } : Jvm.MethodName) prog_14_method_10_code (3 : Nat) (Option.some Jvm.ClassFile.FieldType.int)) ∈ BIG := tb_8 103 rfl rfl
set_option maxRecDepth 100000 in
theorem w_bca25014 : (Jvm.Cond.methodLink "VerseCommitteeLaw" (32 : Nat) ({ cls := "VerseCommitteeModel", name := "source", desc := "(III)Z" } : Jvm.MethodName)) ∈ BIG := tb_8 104 rfl rfl
set_option maxRecDepth 100000 in
theorem w_af762e43 : (Jvm.Cond.instanceMethod ({ cls := "VerseCommitteeModel", name := "source", desc := "(III)Z" } : Jvm.MethodName)) ∈ BIG := tb_8 105 rfl rfl
set_option maxRecDepth 100000 in
theorem w_a480646b : (Jvm.Cond.selects "VerseCommitteeModel" ({ cls := "VerseCommitteeModel", name := "source", desc := "(III)Z" } : Jvm.MethodName) ({ cls := "VerseCommitteeModel", name := "source", desc := "(III)Z" } : Jvm.MethodName)) ∈ BIG := tb_8 106 rfl rfl
set_option maxRecDepth 100000 in
theorem w_d91a24a1 : (Jvm.Cond.code ({ cls := "VerseCommitteeModel", name := "source", desc := "(III)Z" } : Jvm.MethodName) prog_14_method_11_code (6 : Nat) (Option.some Jvm.ClassFile.FieldType.boolean)) ∈ BIG := tb_8 107 rfl rfl
set_option maxRecDepth 100000 in
theorem w_27057df7 : (Jvm.Cond.methodLink "VerseCommitteeModel" (231 : Nat) ({ cls := "VerseCommitteeModel", name := "isVerse", desc := "(I)Z" } : Jvm.MethodName)) ∈ BIG := tb_8 108 rfl rfl
set_option maxRecDepth 100000 in
theorem w_1cac97d9 : (Jvm.Cond.instanceMethod ({ cls := "VerseCommitteeModel", name := "isVerse", desc := "(I)Z" } : Jvm.MethodName)) ∈ BIG := tb_8 110 rfl rfl
set_option maxRecDepth 100000 in
theorem w_35505286 : (Jvm.Cond.code ({ cls := "VerseCommitteeModel", name := "isVerse", desc := "(I)Z" } : Jvm.MethodName) prog_14_method_4_code (2 : Nat) (Option.some Jvm.ClassFile.FieldType.boolean)) ∈ BIG := tb_8 111 rfl rfl
set_option maxRecDepth 100000 in
theorem w_1111d8ab : (Jvm.Cond.methodLink "VerseCommitteeLaw" (76 : Nat) ({ cls := "VerseCommitteeModel", name := "token", desc := "(III)I" } : Jvm.MethodName)) ∈ BIG := tb_8 112 rfl rfl
set_option maxRecDepth 100000 in
theorem w_b047e690 : (Jvm.Cond.instanceMethod ({ cls := "VerseCommitteeModel", name := "token", desc := "(III)I" } : Jvm.MethodName)) ∈ BIG := tb_8 113 rfl rfl
set_option maxRecDepth 100000 in
theorem w_6671b166 : (Jvm.Cond.selects "VerseCommitteeModel" ({ cls := "VerseCommitteeModel", name := "token", desc := "(III)I" } : Jvm.MethodName) ({ cls := "VerseCommitteeModel", name := "token", desc := "(III)I" } : Jvm.MethodName)) ∈ BIG := tb_8 114 rfl rfl
set_option maxRecDepth 100000 in
theorem w_c0215795 : (Jvm.Cond.code ({ cls := "VerseCommitteeModel", name := "token", desc := "(III)I" } : Jvm.MethodName) prog_14_method_12_code (4 : Nat) (Option.some Jvm.ClassFile.FieldType.int)) ∈ BIG := tb_8 115 rfl rfl
set_option maxRecDepth 100000 in
theorem w_71cd4962 : (Jvm.Cond.methodLink "VerseCommitteeLaw" (37 : Nat) ({ cls := "VerseCommitteeModel", name := "word", desc := "(I)I" } : Jvm.MethodName)) ∈ BIG := tb_8 116 rfl rfl
set_option maxRecDepth 100000 in
theorem w_669947bc : (Jvm.Cond.instanceMethod ({ cls := "VerseCommitteeModel", name := "word", desc := "(I)I" } : Jvm.MethodName)) ∈ BIG := tb_8 117 rfl rfl
set_option maxRecDepth 100000 in
theorem w_0cd3fd96 : (Jvm.Cond.selects "VerseCommitteeModel" ({ cls := "VerseCommitteeModel", name := "word", desc := "(I)I" } : Jvm.MethodName) ({ cls := "VerseCommitteeModel", name := "word", desc := "(I)I" } : Jvm.MethodName)) ∈ BIG := tb_8 118 rfl rfl
set_option maxRecDepth 100000 in
theorem w_9577ca1f : (Jvm.Cond.code ({ cls := "VerseCommitteeModel", name := "word", desc := "(I)I" } : Jvm.MethodName) prog_14_method_17_code (3 : Nat) (Option.some Jvm.ClassFile.FieldType.int)) ∈ BIG := tb_8 119 rfl rfl
set_option maxRecDepth 100000 in
theorem w_1920d316 : (Jvm.Cond.methodLink "VerseCommitteeModel" (235 : Nat) ({ cls := "VerseCommitteeModel", name := "isSmall", desc := "(I)Z" } : Jvm.MethodName)) ∈ BIG := tb_8 120 rfl rfl
set_option maxRecDepth 100000 in
theorem w_19b8acbd : (Jvm.Cond.instanceMethod ({ cls := "VerseCommitteeModel", name := "isSmall", desc := "(I)Z" } : Jvm.MethodName)) ∈ BIG := tb_8 122 rfl rfl
set_option maxRecDepth 100000 in
theorem w_cf38f54b : (Jvm.Cond.code ({ cls := "VerseCommitteeModel", name := "isSmall", desc := "(I)Z" } : Jvm.MethodName) prog_14_method_13_code (3 : Nat) (Option.some Jvm.ClassFile.FieldType.boolean)) ∈ BIG := tb_8 123 rfl rfl
set_option maxRecDepth 100000 in
theorem w_8c850575 : (Jvm.Cond.methodLink "VerseCommitteeModel" (238 : Nat) ({ cls := "VerseCommitteeModel", name := "isOwn", desc := "(II)Z" } : Jvm.MethodName)) ∈ BIG := tb_8 124 rfl rfl
set_option maxRecDepth 100000 in
theorem w_621a9fd4 : (Jvm.Cond.instanceMethod ({ cls := "VerseCommitteeModel", name := "isOwn", desc := "(II)Z" } : Jvm.MethodName)) ∈ BIG := tb_8 126 rfl rfl
set_option maxRecDepth 100000 in
theorem w_94375bab : (Jvm.Cond.code ({ cls := "VerseCommitteeModel", name := "isOwn", desc := "(II)Z" } : Jvm.MethodName) prog_14_method_16_code (4 : Nat) (Option.some Jvm.ClassFile.FieldType.boolean)) ∈ BIG := tb_8 127 rfl rfl
set_option maxRecDepth 100000 in
theorem w_6c369cac : (Jvm.Cond.methodLink "VerseCommitteeModel" (242 : Nat) ({ cls := "VerseCommitteeModel", name := "spells", desc := "(III)V" } : Jvm.MethodName)) ∈ BIG := tb_8 128 rfl rfl
set_option maxRecDepth 100000 in
theorem w_c21e94f1 : (Jvm.Cond.instanceMethod ({ cls := "VerseCommitteeModel", name := "spells", desc := "(III)V" } : Jvm.MethodName)) ∈ BIG := tb_8 130 rfl rfl
set_option maxRecDepth 100000 in
theorem w_5f61e1e3 : (Jvm.Cond.code ({ cls := "VerseCommitteeModel", name := "spells", desc := "(III)V" } : Jvm.MethodName) prog_14_method_15_code (6 : Nat) (Option.none : Option Jvm.ClassFile.FieldType)) ∈ BIG := tb_8 131 rfl rfl
set_option maxRecDepth 100000 in
theorem w_1a711aa2 : (Jvm.Cond.methodLink "VerseCommitteeLaw" (41 : Nat) ({ cls := "VerseCommitteeModel", name := "spell", desc := "(III)Z" } : Jvm.MethodName)) ∈ BIG := tb_8 132 rfl rfl
set_option maxRecDepth 100000 in
theorem w_0dda84dc : (Jvm.Cond.instanceMethod ({ cls := "VerseCommitteeModel", name := "spell", desc := "(III)Z" } : Jvm.MethodName)) ∈ BIG := tb_8 133 rfl rfl
set_option maxRecDepth 100000 in
theorem w_840705bf : (Jvm.Cond.selects "VerseCommitteeModel" ({ cls := "VerseCommitteeModel", name := "spell", desc := "(III)Z" } : Jvm.MethodName) ({ cls := "VerseCommitteeModel", name := "spell", desc := "(III)Z" } : Jvm.MethodName)) ∈ BIG := tb_8 134 rfl rfl
set_option maxRecDepth 100000 in
theorem w_e4f3a393 : (Jvm.Cond.code ({ cls := "VerseCommitteeModel", name := "spell", desc := "(III)Z" } : Jvm.MethodName) prog_14_method_18_code (4 : Nat) (Option.some Jvm.ClassFile.FieldType.boolean)) ∈ BIG := tb_8 135 rfl rfl
set_option maxRecDepth 100000 in
theorem w_1aad610f : (Jvm.Cond.methodLink "VerseCommitteeModel" (246 : Nat) ({ cls := "VerseCommitteeModel", name := "isWord", desc := "(I)Z" } : Jvm.MethodName)) ∈ BIG := tb_8 136 rfl rfl
set_option maxRecDepth 100000 in
theorem w_445b6559 : (Jvm.Cond.instanceMethod ({ cls := "VerseCommitteeModel", name := "isWord", desc := "(I)Z" } : Jvm.MethodName)) ∈ BIG := tb_8 138 rfl rfl
set_option maxRecDepth 100000 in
theorem w_c30b7ff5 : (Jvm.Cond.code ({ cls := "VerseCommitteeModel", name := "isWord", desc := "(I)Z" } : Jvm.MethodName) prog_14_method_5_code (2 : Nat) (Option.some Jvm.ClassFile.FieldType.boolean)) ∈ BIG := tb_8 139 rfl rfl
set_option maxRecDepth 100000 in
theorem w_8249f05f : (Jvm.Cond.methodLink "VerseCommitteeLaw" (45 : Nat) ({ cls := "VerseCommitteeModel", name := "syllables", desc := "(I)I" } : Jvm.MethodName)) ∈ BIG := tb_8 140 rfl rfl
set_option maxRecDepth 100000 in
theorem w_7fb9e405 : (Jvm.Cond.instanceMethod ({ cls := "VerseCommitteeModel", name := "syllables", desc := "(I)I" } : Jvm.MethodName)) ∈ BIG := tb_8 141 rfl rfl
set_option maxRecDepth 100000 in
theorem w_bef4a4e9 : (Jvm.Cond.selects "VerseCommitteeModel" ({ cls := "VerseCommitteeModel", name := "syllables", desc := "(I)I" } : Jvm.MethodName) ({ cls := "VerseCommitteeModel", name := "syllables", desc := "(I)I" } : Jvm.MethodName)) ∈ BIG := tb_8 142 rfl rfl
set_option maxRecDepth 100000 in
theorem w_49367758 : (Jvm.Cond.code ({ cls := "VerseCommitteeModel", name := "syllables", desc := "(I)I" } : Jvm.MethodName) prog_14_method_21_code (2 : Nat) (Option.some Jvm.ClassFile.FieldType.int)) ∈ BIG := tb_8 143 rfl rfl
set_option maxRecDepth 100000 in
theorem w_a026add7 : (Jvm.Cond.methodLink "VerseCommitteeModel" (252 : Nat) ({ cls := "VerseCommitteeModel", name := "syllablesOf", desc := "(I)I" } : Jvm.MethodName)) ∈ BIG := tb_8 144 rfl rfl
set_option maxRecDepth 100000 in
theorem w_b188555f : (Jvm.Cond.instanceMethod ({ cls := "VerseCommitteeModel", name := "syllablesOf", desc := "(I)I" } : Jvm.MethodName)) ∈ BIG := tb_8 146 rfl rfl
set_option maxRecDepth 100000 in
theorem w_8b28240c : (Jvm.Cond.code ({ cls := "VerseCommitteeModel", name := "syllablesOf", desc := "(I)I" } : Jvm.MethodName) prog_14_method_20_code (6 : Nat) (Option.some Jvm.ClassFile.FieldType.int)) ∈ BIG := tb_8 147 rfl rfl
set_option maxRecDepth 100000 in
theorem w_e2e7b3e8 : (Jvm.Cond.methodLink "VerseCommitteeModel" (249 : Nat) ({ cls := "VerseCommitteeModel", name := "isVowel", desc := "(I)Z" } : Jvm.MethodName)) ∈ BIG := tb_8 148 rfl rfl
set_option maxRecDepth 100000 in
theorem w_58710a4d : (Jvm.Cond.static ({ cls := "VerseCommitteeModel", name := "isVowel", desc := "(I)Z" } : Jvm.MethodName)) ∈ BIG := tb_8 149 rfl rfl
set_option maxRecDepth 100000 in
theorem w_2ff0e632 : (Jvm.Cond.code ({ cls := "VerseCommitteeModel", name := "isVowel", desc := "(I)Z" } : Jvm.MethodName) prog_14_method_19_code (1 : Nat) (Option.some Jvm.ClassFile.FieldType.boolean)) ∈ BIG := tb_8 150 rfl rfl
set_option maxRecDepth 100000 in
theorem w_5e0cc9b0 : (Jvm.Cond.methodLink "VerseCommitteeLaw" (49 : Nat) ({ cls := "VerseCommitteeModel", name := "company", desc := "(II)I" } : Jvm.MethodName)) ∈ BIG := tb_8 151 rfl rfl
set_option maxRecDepth 100000 in
theorem w_c1a5c1e0 : (Jvm.Cond.instanceMethod ({ cls := "VerseCommitteeModel", name := "company", desc := "(II)I" } : Jvm.MethodName)) ∈ BIG := tb_8 152 rfl rfl
set_option maxRecDepth 100000 in
theorem w_5cef9fd8 : (Jvm.Cond.selects "VerseCommitteeModel" ({ cls := "VerseCommitteeModel", name := "company", desc := "(II)I" } : Jvm.MethodName) ({ cls := "VerseCommitteeModel", name := "company", desc := "(II)I" } : Jvm.MethodName)) ∈ BIG := tb_8 153 rfl rfl
set_option maxRecDepth 100000 in
theorem w_ebf44de7 : (Jvm.Cond.code ({ cls := "VerseCommitteeModel", name := "company", desc := "(II)I" } : Jvm.MethodName) prog_14_method_22_code (3 : Nat) (Option.some Jvm.ClassFile.FieldType.int)) ∈ BIG := tb_8 154 rfl rfl
set_option maxRecDepth 100000 in
theorem w_fd22f426 : (Jvm.Cond.methodLink "VerseCommitteeLaw" (53 : Nat) ({ cls := "VerseCommitteeModel", name := "centre", desc := "(I)Z" } : Jvm.MethodName)) ∈ BIG := tb_8 155 rfl rfl
set_option maxRecDepth 100000 in
theorem w_098d4d0a : (Jvm.Cond.instanceMethod ({ cls := "VerseCommitteeModel", name := "centre", desc := "(I)Z" } : Jvm.MethodName)) ∈ BIG := tb_8 156 rfl rfl
set_option maxRecDepth 100000 in
theorem w_c280c607 : (Jvm.Cond.selects "VerseCommitteeModel" ({ cls := "VerseCommitteeModel", name := "centre", desc := "(I)Z" } : Jvm.MethodName) ({ cls := "VerseCommitteeModel", name := "centre", desc := "(I)Z" } : Jvm.MethodName)) ∈ BIG := tb_8 157 rfl rfl
set_option maxRecDepth 100000 in
theorem w_91b44d7d : (Jvm.Cond.code ({ cls := "VerseCommitteeModel", name := "centre", desc := "(I)Z" } : Jvm.MethodName) prog_14_method_23_code (2 : Nat) (Option.some Jvm.ClassFile.FieldType.boolean)) ∈ BIG := tb_8 158 rfl rfl
set_option maxRecDepth 100000 in
theorem w_7b26d0fd : (Jvm.Cond.methodLink "VerseCommitteeLaw" (58 : Nat) ({ cls := "VerseCommitteeModel", name := "scholar", desc := "(IZ)I" } : Jvm.MethodName)) ∈ BIG := tb_8 159 rfl rfl
set_option maxRecDepth 100000 in
theorem w_949935a0 : (Jvm.Cond.instanceMethod ({ cls := "VerseCommitteeModel", name := "scholar", desc := "(IZ)I" } : Jvm.MethodName)) ∈ BIG := tb_8 160 rfl rfl
set_option maxRecDepth 100000 in
theorem w_7a8e0231 : (Jvm.Cond.selects "VerseCommitteeModel" ({ cls := "VerseCommitteeModel", name := "scholar", desc := "(IZ)I" } : Jvm.MethodName) ({ cls := "VerseCommitteeModel", name := "scholar", desc := "(IZ)I" } : Jvm.MethodName)) ∈ BIG := tb_8 161 rfl rfl
set_option maxRecDepth 100000 in
theorem w_fab7e5e0 : (Jvm.Cond.code ({ cls := "VerseCommitteeModel", name := "scholar", desc := "(IZ)I" } : Jvm.MethodName) prog_14_method_24_code (3 : Nat) (Option.some Jvm.ClassFile.FieldType.int)) ∈ BIG := tb_8 162 rfl rfl
set_option maxRecDepth 100000 in
theorem w_98bb58ca : (Jvm.Cond.methodLink "VerseCommitteeLaw" (63 : Nat) ({ cls := "VerseCommitteeModel", name := "rules", desc := "(IIII)I" } : Jvm.MethodName)) ∈ BIG := tb_8 163 rfl rfl
set_option maxRecDepth 100000 in
theorem w_03e2963d : (Jvm.Cond.instanceMethod ({ cls := "VerseCommitteeModel", name := "rules", desc := "(IIII)I" } : Jvm.MethodName)) ∈ BIG := tb_8 164 rfl rfl
set_option maxRecDepth 100000 in
theorem w_faf242e6 : (Jvm.Cond.selects "VerseCommitteeModel" ({ cls := "VerseCommitteeModel", name := "rules", desc := "(IIII)I" } : Jvm.MethodName) ({ cls := "VerseCommitteeModel", name := "rules", desc := "(IIII)I" } : Jvm.MethodName)) ∈ BIG := tb_8 165 rfl rfl
set_option maxRecDepth 100000 in
theorem w_93ab22ad : (Jvm.Cond.code ({ cls := "VerseCommitteeModel", name := "rules", desc := "(IIII)I" } : Jvm.MethodName) prog_14_method_51_code (6 : Nat) (Option.some Jvm.ClassFile.FieldType.int)) ∈ BIG := tb_8 166 rfl rfl
set_option maxRecDepth 100000 in
theorem w_87685029 : (Jvm.Cond.methodLink "VerseCommitteeModel" (376 : Nat) ({ cls := "VerseCommitteeModel", name := "isDay", desc := "(I)Z" } : Jvm.MethodName)) ∈ BIG := tb_8 167 rfl rfl
set_option maxRecDepth 100000 in
theorem w_c478a340 : (Jvm.Cond.instanceMethod ({ cls := "VerseCommitteeModel", name := "isDay", desc := "(I)Z" } : Jvm.MethodName)) ∈ BIG := tb_8 169 rfl rfl
set_option maxRecDepth 100000 in
theorem w_717b2dad : (Jvm.Cond.code ({ cls := "VerseCommitteeModel", name := "isDay", desc := "(I)Z" } : Jvm.MethodName) prog_14_method_6_code (2 : Nat) (Option.some Jvm.ClassFile.FieldType.boolean)) ∈ BIG := tb_8 170 rfl rfl
set_option maxRecDepth 100000 in
theorem w_1279c555 : (Jvm.Cond.methodLink "VerseCommitteeModel" (277 : Nat) ({ cls := "VerseCommitteeModel", name := "isGood", desc := "()Z" } : Jvm.MethodName)) ∈ BIG := tb_8 171 rfl rfl
set_option maxRecDepth 100000 in
theorem w_a8d8cbdf : (Jvm.Cond.instanceMethod ({ cls := "VerseCommitteeModel", name := "isGood", desc := "()Z" } : Jvm.MethodName)) ∈ BIG := tb_8 173 rfl rfl
set_option maxRecDepth 100000 in
theorem w_dc359e1b : (Jvm.Cond.code ({ cls := "VerseCommitteeModel", name := "isGood", desc := "()Z" } : Jvm.MethodName) prog_14_method_28_code (1 : Nat) (Option.some Jvm.ClassFile.FieldType.boolean)) ∈ BIG := tb_8 174 rfl rfl
set_option maxRecDepth 100000 in
theorem w_44aa6d21 : (Jvm.Cond.methodLink "VerseCommitteeModel" (379 : Nat) ({ cls := "VerseCommitteeModel", name := "clause", desc := "()V" } : Jvm.MethodName)) ∈ BIG := tb_8 175 rfl rfl
set_option maxRecDepth 100000 in
theorem w_4e49bb0b : (Jvm.Cond.instanceMethod ({ cls := "VerseCommitteeModel", name := "clause", desc := "()V" } : Jvm.MethodName)) ∈ BIG := tb_8 177 rfl rfl
set_option maxRecDepth 100000 in
theorem w_cad8f49b : (Jvm.Cond.code ({ cls := "VerseCommitteeModel", name := "clause", desc := "()V" } : Jvm.MethodName) prog_14_method_50_code (3 : Nat) (Option.none : Option Jvm.ClassFile.FieldType)) ∈ BIG := tb_8 178 rfl rfl
set_option maxRecDepth 100000 in
theorem w_26956ba5 : (Jvm.Cond.methodLink "VerseCommitteeModel" (297 : Nat) ({ cls := "VerseCommitteeModel", name := "here", desc := "()I" } : Jvm.MethodName)) ∈ BIG := tb_8 179 rfl rfl
set_option maxRecDepth 100000 in
theorem w_d081718c : (Jvm.Cond.instanceMethod ({ cls := "VerseCommitteeModel", name := "here", desc := "()I" } : Jvm.MethodName)) ∈ BIG := tb_8 181 rfl rfl
set_option maxRecDepth 100000 in
theorem w_a466a997 : (Jvm.Cond.code ({ cls := "VerseCommitteeModel", name := "here", desc := "()I" } : Jvm.MethodName) prog_14_method_26_code (1 : Nat) (Option.some Jvm.ClassFile.FieldType.int)) ∈ BIG := tb_8 182 rfl rfl
set_option maxRecDepth 100000 in
theorem w_c6365e40 : (Jvm.Cond.methodLink "VerseCommitteeModel" (293 : Nat) ({ cls := "VerseCommitteeModel", name := "fails", desc := "(II)V" } : Jvm.MethodName)) ∈ BIG := tb_8 183 rfl rfl
set_option maxRecDepth 100000 in
theorem w_298790b5 : (Jvm.Cond.instanceMethod ({ cls := "VerseCommitteeModel", name := "fails", desc := "(II)V" } : Jvm.MethodName)) ∈ BIG := tb_8 185 rfl rfl
set_option maxRecDepth 100000 in
theorem w_83aff011 : (Jvm.Cond.code ({ cls := "VerseCommitteeModel", name := "fails", desc := "(II)V" } : Jvm.MethodName) prog_14_method_27_code (3 : Nat) (Option.none : Option Jvm.ClassFile.FieldType)) ∈ BIG := tb_8 186 rfl rfl
set_option maxRecDepth 100000 in
theorem w_8cb0cad3 : (Jvm.Cond.methodLink "VerseCommitteeModel" (367 : Nat) ({ cls := "VerseCommitteeModel", name := "readsMust", desc := "(I)V" } : Jvm.MethodName)) ∈ BIG := tb_8 187 rfl rfl
set_option maxRecDepth 100000 in
theorem w_d77f67ad : (Jvm.Cond.instanceMethod ({ cls := "VerseCommitteeModel", name := "readsMust", desc := "(I)V" } : Jvm.MethodName)) ∈ BIG := tb_8 189 rfl rfl
set_option maxRecDepth 100000 in
theorem w_bfa10136 : (Jvm.Cond.code ({ cls := "VerseCommitteeModel", name := "readsMust", desc := "(I)V" } : Jvm.MethodName) prog_14_method_48_code (2 : Nat) (Option.none : Option Jvm.ClassFile.FieldType)) ∈ BIG := tb_8 190 rfl rfl
set_option maxRecDepth 100000 in
theorem w_d75c9e76 : (Jvm.Cond.methodLink "VerseCommitteeModel" (323 : Nat) ({ cls := "VerseCommitteeModel", name := "readsNumber", desc := "(I)I" } : Jvm.MethodName)) ∈ BIG := tb_8 191 rfl rfl
set_option maxRecDepth 100000 in
theorem w_2cf0f38d : (Jvm.Cond.instanceMethod ({ cls := "VerseCommitteeModel", name := "readsNumber", desc := "(I)I" } : Jvm.MethodName)) ∈ BIG := tb_8 193 rfl rfl
set_option maxRecDepth 100000 in
theorem w_bff53753 : (Jvm.Cond.code ({ cls := "VerseCommitteeModel", name := "readsNumber", desc := "(I)I" } : Jvm.MethodName) prog_14_method_34_code (4 : Nat) (Option.some Jvm.ClassFile.FieldType.int)) ∈ BIG := tb_8 194 rfl rfl
set_option maxRecDepth 100000 in
theorem w_5be96fe8 : (Jvm.Cond.methodLink "VerseCommitteeModel" (304 : Nat) ({ cls := "VerseCommitteeModel", name := "seesDigit", desc := "()Z" } : Jvm.MethodName)) ∈ BIG := tb_8 195 rfl rfl
set_option maxRecDepth 100000 in
theorem w_2c0a9690 : (Jvm.Cond.instanceMethod ({ cls := "VerseCommitteeModel", name := "seesDigit", desc := "()Z" } : Jvm.MethodName)) ∈ BIG := tb_8 197 rfl rfl
set_option maxRecDepth 100000 in
theorem w_465eafbd : (Jvm.Cond.code ({ cls := "VerseCommitteeModel", name := "seesDigit", desc := "()Z" } : Jvm.MethodName) prog_14_method_33_code (1 : Nat) (Option.some Jvm.ClassFile.FieldType.boolean)) ∈ BIG := tb_8 198 rfl rfl
set_option maxRecDepth 100000 in
theorem w_c0043685 : (Jvm.Cond.methodLink "VerseCommitteeModel" (361 : Nat) ({ cls := "VerseCommitteeModel", name := "must", desc := "(I)V" } : Jvm.MethodName)) ∈ BIG := tb_8 199 rfl rfl
set_option maxRecDepth 100000 in
theorem w_36930864 : (Jvm.Cond.instanceMethod ({ cls := "VerseCommitteeModel", name := "must", desc := "(I)V" } : Jvm.MethodName)) ∈ BIG := tb_8 201 rfl rfl
set_option maxRecDepth 100000 in
theorem w_9c861c1d : (Jvm.Cond.code ({ cls := "VerseCommitteeModel", name := "must", desc := "(I)V" } : Jvm.MethodName) prog_14_method_35_code (2 : Nat) (Option.none : Option Jvm.ClassFile.FieldType)) ∈ BIG := tb_8 202 rfl rfl
set_option maxRecDepth 100000 in
theorem w_aebeca9f : (Jvm.Cond.methodLink "VerseCommitteeModel" (370 : Nat) ({ cls := "VerseCommitteeModel", name := "readsRank", desc := "(I)V" } : Jvm.MethodName)) ∈ BIG := tb_8 203 rfl rfl
set_option maxRecDepth 100000 in
theorem w_022ec803 : (Jvm.Cond.instanceMethod ({ cls := "VerseCommitteeModel", name := "readsRank", desc := "(I)V" } : Jvm.MethodName)) ∈ BIG := tb_8 205 rfl rfl
set_option maxRecDepth 100000 in
theorem w_9fc67605 : (Jvm.Cond.code ({ cls := "VerseCommitteeModel", name := "readsRank", desc := "(I)V" } : Jvm.MethodName) prog_14_method_49_code (5 : Nat) (Option.none : Option Jvm.ClassFile.FieldType)) ∈ BIG := tb_8 206 rfl rfl
set_option maxRecDepth 100000 in
theorem w_17a75abd : (Jvm.Cond.methodLink "VerseCommitteeModel" (265 : Nat) ({ cls := "VerseCommitteeModel", name := "has", desc := "(II)Z" } : Jvm.MethodName)) ∈ BIG := tb_8 207 rfl rfl
set_option maxRecDepth 100000 in
theorem w_f581183b : (Jvm.Cond.static ({ cls := "VerseCommitteeModel", name := "has", desc := "(II)Z" } : Jvm.MethodName)) ∈ BIG := tb_8 208 rfl rfl
set_option maxRecDepth 100000 in
theorem w_b69f9169 : (Jvm.Cond.code ({ cls := "VerseCommitteeModel", name := "has", desc := "(II)Z" } : Jvm.MethodName) prog_14_method_3_code (2 : Nat) (Option.some Jvm.ClassFile.FieldType.boolean)) ∈ BIG := tb_8 209 rfl rfl
set_option maxRecDepth 100000 in
theorem w_a7db86ad : (Jvm.Cond.constant "VerseCommitteeModel" (322 : Nat) (99999 : Int32)) ∈ BIG := tb_8 210 rfl rfl
set_option maxRecDepth 100000 in
theorem w_58f49e82 : (Jvm.Cond.methodLink "VerseCommitteeModel" (373 : Nat) ({ cls := "VerseCommitteeModel", name := "condition", desc := "()V" } : Jvm.MethodName)) ∈ BIG := tb_8 211 rfl rfl
set_option maxRecDepth 100000 in
theorem w_379fa54e : (Jvm.Cond.instanceMethod ({ cls := "VerseCommitteeModel", name := "condition", desc := "()V" } : Jvm.MethodName)) ∈ BIG := tb_8 213 rfl rfl
set_option maxRecDepth 100000 in
theorem w_6c58156a : (Jvm.Cond.code ({ cls := "VerseCommitteeModel", name := "condition", desc := "()V" } : Jvm.MethodName) prog_14_method_47_code (2 : Nat) (Option.none : Option Jvm.ClassFile.FieldType)) ∈ BIG := tb_8 214 rfl rfl
set_option maxRecDepth 100000 in
theorem w_8015c217 : (Jvm.Cond.methodLink "VerseCommitteeModel" (319 : Nat) ({ cls := "VerseCommitteeModel", name := "opens", desc := "()V" } : Jvm.MethodName)) ∈ BIG := tb_8 215 rfl rfl
set_option maxRecDepth 100000 in
theorem w_60140e5c : (Jvm.Cond.instanceMethod ({ cls := "VerseCommitteeModel", name := "opens", desc := "()V" } : Jvm.MethodName)) ∈ BIG := tb_8 217 rfl rfl
set_option maxRecDepth 100000 in
theorem w_0eb53cc5 : (Jvm.Cond.code ({ cls := "VerseCommitteeModel", name := "opens", desc := "()V" } : Jvm.MethodName) prog_14_method_32_code (1 : Nat) (Option.none : Option Jvm.ClassFile.FieldType)) ∈ BIG := tb_8 218 rfl rfl
set_option maxRecDepth 100000 in
theorem w_66d7c2d2 : (Jvm.Cond.methodLink "VerseCommitteeModel" (301 : Nat) ({ cls := "VerseCommitteeModel", name := "puts", desc := "(I)V" } : Jvm.MethodName)) ∈ BIG := tb_8 219 rfl rfl
set_option maxRecDepth 100000 in
theorem w_af1b6fe4 : (Jvm.Cond.instanceMethod ({ cls := "VerseCommitteeModel", name := "puts", desc := "(I)V" } : Jvm.MethodName)) ∈ BIG := tb_8 221 rfl rfl
set_option maxRecDepth 100000 in
theorem w_c7c5609c : (Jvm.Cond.code ({ cls := "VerseCommitteeModel", name := "puts", desc := "(I)V" } : Jvm.MethodName) prog_14_method_31_code (2 : Nat) (Option.none : Option Jvm.ClassFile.FieldType)) ∈ BIG := tb_8 222 rfl rfl
set_option maxRecDepth 100000 in
theorem w_b7b49949 : (Jvm.Cond.methodLink "VerseCommitteeModel" (355 : Nat) ({ cls := "VerseCommitteeModel", name := "piece", desc := "()V" } : Jvm.MethodName)) ∈ BIG := tb_8 223 rfl rfl
set_option maxRecDepth 100000 in
theorem w_1cf1321f : (Jvm.Cond.instanceMethod ({ cls := "VerseCommitteeModel", name := "piece", desc := "()V" } : Jvm.MethodName)) ∈ BIG := tb_8 225 rfl rfl
set_option maxRecDepth 100000 in
theorem w_0aaeb163 : (Jvm.Cond.code ({ cls := "VerseCommitteeModel", name := "piece", desc := "()V" } : Jvm.MethodName) prog_14_method_45_code (2 : Nat) (Option.none : Option Jvm.ClassFile.FieldType)) ∈ BIG := tb_8 226 rfl rfl
set_option maxRecDepth 100000 in
theorem w_651f519a : (Jvm.Cond.methodLink "VerseCommitteeModel" (340 : Nat) ({ cls := "VerseCommitteeModel", name := "factor", desc := "()V" } : Jvm.MethodName)) ∈ BIG := tb_8 227 rfl rfl
set_option maxRecDepth 100000 in
theorem w_81900b21 : (Jvm.Cond.instanceMethod ({ cls := "VerseCommitteeModel", name := "factor", desc := "()V" } : Jvm.MethodName)) ∈ BIG := tb_8 229 rfl rfl
set_option maxRecDepth 100000 in
theorem w_2878a860 : (Jvm.Cond.code ({ cls := "VerseCommitteeModel", name := "factor", desc := "()V" } : Jvm.MethodName) prog_14_method_43_code (1 : Nat) (Option.none : Option Jvm.ClassFile.FieldType)) ∈ BIG := tb_8 230 rfl rfl
set_option maxRecDepth 100000 in
theorem w_5007ddc1 : (Jvm.Cond.methodLink "VerseCommitteeModel" (316 : Nat) ({ cls := "VerseCommitteeModel", name := "emit", desc := "(II)V" } : Jvm.MethodName)) ∈ BIG := tb_8 231 rfl rfl
set_option maxRecDepth 100000 in
theorem w_70fcad1d : (Jvm.Cond.instanceMethod ({ cls := "VerseCommitteeModel", name := "emit", desc := "(II)V" } : Jvm.MethodName)) ∈ BIG := tb_8 233 rfl rfl
set_option maxRecDepth 100000 in
theorem w_33affdd0 : (Jvm.Cond.code ({ cls := "VerseCommitteeModel", name := "emit", desc := "(II)V" } : Jvm.MethodName) prog_14_method_29_code (3 : Nat) (Option.none : Option Jvm.ClassFile.FieldType)) ∈ BIG := tb_8 234 rfl rfl
set_option maxRecDepth 100000 in
theorem w_26706623 : (Jvm.Cond.methodLink "VerseCommitteeModel" (326 : Nat) ({ cls := "VerseCommitteeModel", name := "isValue", desc := "(I)Z" } : Jvm.MethodName)) ∈ BIG := tb_8 235 rfl rfl
set_option maxRecDepth 100000 in
theorem w_38c3596d : (Jvm.Cond.static ({ cls := "VerseCommitteeModel", name := "isValue", desc := "(I)Z" } : Jvm.MethodName)) ∈ BIG := tb_8 236 rfl rfl
set_option maxRecDepth 100000 in
theorem w_cfac2ac3 : (Jvm.Cond.code ({ cls := "VerseCommitteeModel", name := "isValue", desc := "(I)Z" } : Jvm.MethodName) prog_14_method_39_code (1 : Nat) (Option.some Jvm.ClassFile.FieldType.boolean)) ∈ BIG := tb_8 237 rfl rfl
set_option maxRecDepth 100000 in
theorem w_55bb6e79 : (Jvm.Cond.methodLink "VerseCommitteeModel" (343 : Nat) ({ cls := "VerseCommitteeModel", name := "goesOn", desc := "()Z" } : Jvm.MethodName)) ∈ BIG := tb_8 238 rfl rfl
set_option maxRecDepth 100000 in
theorem w_bffcb78c : (Jvm.Cond.instanceMethod ({ cls := "VerseCommitteeModel", name := "goesOn", desc := "()Z" } : Jvm.MethodName)) ∈ BIG := tb_9 0 rfl rfl
set_option maxRecDepth 100000 in
theorem w_9067a0a6 : (Jvm.Cond.code ({ cls := "VerseCommitteeModel", name := "goesOn", desc := "()Z" } : Jvm.MethodName) prog_14_method_44_code (2 : Nat) (Option.some Jvm.ClassFile.FieldType.boolean)) ∈ BIG := tb_9 1 rfl rfl
set_option maxRecDepth 100000 in
theorem w_5f8ae369 : (Jvm.Cond.methodLink "VerseCommitteeModel" (310 : Nat) ({ cls := "VerseCommitteeModel", name := "isTimes", desc := "(I)Z" } : Jvm.MethodName)) ∈ BIG := tb_9 2 rfl rfl
set_option maxRecDepth 100000 in
theorem w_23cc893c : (Jvm.Cond.static ({ cls := "VerseCommitteeModel", name := "isTimes", desc := "(I)Z" } : Jvm.MethodName)) ∈ BIG := tb_9 3 rfl rfl
set_option maxRecDepth 100000 in
theorem w_09449219 : (Jvm.Cond.code ({ cls := "VerseCommitteeModel", name := "isTimes", desc := "(I)Z" } : Jvm.MethodName) prog_14_method_36_code (1 : Nat) (Option.some Jvm.ClassFile.FieldType.boolean)) ∈ BIG := tb_9 4 rfl rfl
set_option maxRecDepth 100000 in
theorem w_f72eaa8f : (Jvm.Cond.methodLink "VerseCommitteeModel" (313 : Nat) ({ cls := "VerseCommitteeModel", name := "isPlus", desc := "(I)Z" } : Jvm.MethodName)) ∈ BIG := tb_9 5 rfl rfl
set_option maxRecDepth 100000 in
theorem w_99510492 : (Jvm.Cond.static ({ cls := "VerseCommitteeModel", name := "isPlus", desc := "(I)Z" } : Jvm.MethodName)) ∈ BIG := tb_9 6 rfl rfl
set_option maxRecDepth 100000 in
theorem w_fb5d85e0 : (Jvm.Cond.code ({ cls := "VerseCommitteeModel", name := "isPlus", desc := "(I)Z" } : Jvm.MethodName) prog_14_method_37_code (1 : Nat) (Option.some Jvm.ClassFile.FieldType.boolean)) ∈ BIG := tb_9 7 rfl rfl
set_option maxRecDepth 100000 in
theorem w_d8c0ea93 : (Jvm.Cond.methodLink "VerseCommitteeModel" (329 : Nat) ({ cls := "VerseCommitteeModel", name := "sums", desc := "(Z)V" } : Jvm.MethodName)) ∈ BIG := tb_9 8 rfl rfl
set_option maxRecDepth 100000 in
theorem w_e0dbd922 : (Jvm.Cond.instanceMethod ({ cls := "VerseCommitteeModel", name := "sums", desc := "(Z)V" } : Jvm.MethodName)) ∈ BIG := tb_9 10 rfl rfl
set_option maxRecDepth 100000 in
theorem w_0364d22b : (Jvm.Cond.code ({ cls := "VerseCommitteeModel", name := "sums", desc := "(Z)V" } : Jvm.MethodName) prog_14_method_40_code (2 : Nat) (Option.none : Option Jvm.ClassFile.FieldType)) ∈ BIG := tb_9 11 rfl rfl
set_option maxRecDepth 100000 in
theorem w_bc6e39b3 : (Jvm.Cond.methodLink "VerseCommitteeModel" (307 : Nat) ({ cls := "VerseCommitteeModel", name := "top", desc := "()I" } : Jvm.MethodName)) ∈ BIG := tb_9 12 rfl rfl
set_option maxRecDepth 100000 in
theorem w_8221b243 : (Jvm.Cond.instanceMethod ({ cls := "VerseCommitteeModel", name := "top", desc := "()I" } : Jvm.MethodName)) ∈ BIG := tb_9 14 rfl rfl
set_option maxRecDepth 100000 in
theorem w_dd716138 : (Jvm.Cond.code ({ cls := "VerseCommitteeModel", name := "top", desc := "()I" } : Jvm.MethodName) prog_14_method_30_code (1 : Nat) (Option.some Jvm.ClassFile.FieldType.int)) ∈ BIG := tb_9 15 rfl rfl
set_option maxRecDepth 100000 in
theorem w_3d5508ef : (Jvm.Cond.methodLink "VerseCommitteeModel" (337 : Nat) ({ cls := "VerseCommitteeModel", name := "isSign", desc := "(I)Z" } : Jvm.MethodName)) ∈ BIG := tb_9 16 rfl rfl
set_option maxRecDepth 100000 in
theorem w_2d6ce486 : (Jvm.Cond.static ({ cls := "VerseCommitteeModel", name := "isSign", desc := "(I)Z" } : Jvm.MethodName)) ∈ BIG := tb_9 17 rfl rfl
set_option maxRecDepth 100000 in
theorem w_a5e174b3 : (Jvm.Cond.code ({ cls := "VerseCommitteeModel", name := "isSign", desc := "(I)Z" } : Jvm.MethodName) prog_14_method_38_code (1 : Nat) (Option.some Jvm.ClassFile.FieldType.boolean)) ∈ BIG := tb_9 18 rfl rfl
set_option maxRecDepth 100000 in
theorem w_3ecc9b19 : (Jvm.Cond.methodLink "VerseCommitteeModel" (346 : Nat) ({ cls := "VerseCommitteeModel", name := "ends", desc := "()V" } : Jvm.MethodName)) ∈ BIG := tb_9 19 rfl rfl
set_option maxRecDepth 100000 in
theorem w_5b4ef7a7 : (Jvm.Cond.instanceMethod ({ cls := "VerseCommitteeModel", name := "ends", desc := "()V" } : Jvm.MethodName)) ∈ BIG := tb_9 21 rfl rfl
set_option maxRecDepth 100000 in
theorem w_8b812591 : (Jvm.Cond.code ({ cls := "VerseCommitteeModel", name := "ends", desc := "()V" } : Jvm.MethodName) prog_14_method_42_code (1 : Nat) (Option.none : Option Jvm.ClassFile.FieldType)) ∈ BIG := tb_9 22 rfl rfl
set_option maxRecDepth 100000 in
theorem w_1b4701fb : (Jvm.Cond.methodLink "VerseCommitteeModel" (358 : Nat) ({ cls := "VerseCommitteeModel", name := "goesBehind", desc := "()Z" } : Jvm.MethodName)) ∈ BIG := tb_9 23 rfl rfl
set_option maxRecDepth 100000 in
theorem w_f5908580 : (Jvm.Cond.instanceMethod ({ cls := "VerseCommitteeModel", name := "goesBehind", desc := "()Z" } : Jvm.MethodName)) ∈ BIG := tb_9 25 rfl rfl
set_option maxRecDepth 100000 in
theorem w_73ae7677 : (Jvm.Cond.code ({ cls := "VerseCommitteeModel", name := "goesBehind", desc := "()Z" } : Jvm.MethodName) prog_14_method_46_code (2 : Nat) (Option.some Jvm.ClassFile.FieldType.boolean)) ∈ BIG := tb_9 26 rfl rfl
set_option maxRecDepth 100000 in
theorem w_ea2a0230 : (Jvm.Cond.methodLink "VerseCommitteeModel" (349 : Nat) ({ cls := "VerseCommitteeModel", name := "joins", desc := "(Z)V" } : Jvm.MethodName)) ∈ BIG := tb_9 27 rfl rfl
set_option maxRecDepth 100000 in
theorem w_9e42a540 : (Jvm.Cond.instanceMethod ({ cls := "VerseCommitteeModel", name := "joins", desc := "(Z)V" } : Jvm.MethodName)) ∈ BIG := tb_9 29 rfl rfl
set_option maxRecDepth 100000 in
theorem w_00c5d893 : (Jvm.Cond.code ({ cls := "VerseCommitteeModel", name := "joins", desc := "(Z)V" } : Jvm.MethodName) prog_14_method_41_code (2 : Nat) (Option.none : Option Jvm.ClassFile.FieldType)) ∈ BIG := tb_9 30 rfl rfl
set_option maxRecDepth 100000 in
theorem w_12dbb890 : (Jvm.Cond.methodLink "VerseCommitteeLaw" (72 : Nat) ({ cls := "VerseCommitteeModel", name := "asks", desc := "(III)I" } : Jvm.MethodName)) ∈ BIG := tb_9 31 rfl rfl
set_option maxRecDepth 100000 in
theorem w_5ea0abbc : (Jvm.Cond.instanceMethod ({ cls := "VerseCommitteeModel", name := "asks", desc := "(III)I" } : Jvm.MethodName)) ∈ BIG := tb_9 32 rfl rfl
set_option maxRecDepth 100000 in
theorem w_2bff17cb : (Jvm.Cond.selects "VerseCommitteeModel" ({ cls := "VerseCommitteeModel", name := "asks", desc := "(III)I" } : Jvm.MethodName) ({ cls := "VerseCommitteeModel", name := "asks", desc := "(III)I" } : Jvm.MethodName)) ∈ BIG := tb_9 33 rfl rfl
set_option maxRecDepth 100000 in
theorem w_5cfe18d9 : (Jvm.Cond.code ({ cls := "VerseCommitteeModel", name := "asks", desc := "(III)I" } : Jvm.MethodName) prog_14_method_58_code (4 : Nat) (Option.some Jvm.ClassFile.FieldType.int)) ∈ BIG := tb_9 34 rfl rfl
set_option maxRecDepth 100000 in
theorem w_f80dcb5c : (Jvm.Cond.methodLink "VerseCommitteeModel" (396 : Nat) ({ cls := "VerseCommitteeModel", name := "neededAt", desc := "(III)I" } : Jvm.MethodName)) ∈ BIG := tb_9 35 rfl rfl
set_option maxRecDepth 100000 in
theorem w_b6120675 : (Jvm.Cond.instanceMethod ({ cls := "VerseCommitteeModel", name := "neededAt", desc := "(III)I" } : Jvm.MethodName)) ∈ BIG := tb_9 37 rfl rfl
set_option maxRecDepth 100000 in
theorem w_3b309f91 : (Jvm.Cond.code ({ cls := "VerseCommitteeModel", name := "neededAt", desc := "(III)I" } : Jvm.MethodName) prog_14_method_56_code (5 : Nat) (Option.some Jvm.ClassFile.FieldType.int)) ∈ BIG := tb_9 38 rfl rfl
set_option maxRecDepth 100000 in
theorem w_ebb8b74f : (Jvm.Cond.methodLink "VerseCommitteeModel" (388 : Nat) ({ cls := "VerseCommitteeModel", name := "lastOf", desc := "(IIII)I" } : Jvm.MethodName)) ∈ BIG := tb_9 39 rfl rfl
set_option maxRecDepth 100000 in
theorem w_eeaea2b5 : (Jvm.Cond.instanceMethod ({ cls := "VerseCommitteeModel", name := "lastOf", desc := "(IIII)I" } : Jvm.MethodName)) ∈ BIG := tb_9 41 rfl rfl
set_option maxRecDepth 100000 in
theorem w_2a2ce44f : (Jvm.Cond.code ({ cls := "VerseCommitteeModel", name := "lastOf", desc := "(IIII)I" } : Jvm.MethodName) prog_14_method_53_code (7 : Nat) (Option.some Jvm.ClassFile.FieldType.int)) ∈ BIG := tb_9 42 rfl rfl
set_option maxRecDepth 100000 in
theorem w_c1b41744 : (Jvm.Cond.methodLink "VerseCommitteeModel" (385 : Nat) ({ cls := "VerseCommitteeModel", name := "isInForce", desc := "(III)Z" } : Jvm.MethodName)) ∈ BIG := tb_9 43 rfl rfl
set_option maxRecDepth 100000 in
theorem w_46a5c70b : (Jvm.Cond.instanceMethod ({ cls := "VerseCommitteeModel", name := "isInForce", desc := "(III)Z" } : Jvm.MethodName)) ∈ BIG := tb_9 45 rfl rfl
set_option maxRecDepth 100000 in
theorem w_e836271d : (Jvm.Cond.code ({ cls := "VerseCommitteeModel", name := "isInForce", desc := "(III)Z" } : Jvm.MethodName) prog_14_method_52_code (4 : Nat) (Option.some Jvm.ClassFile.FieldType.boolean)) ∈ BIG := tb_9 46 rfl rfl
set_option maxRecDepth 100000 in
theorem w_c7fc5a62 : (Jvm.Cond.methodLink "VerseCommitteeModel" (382 : Nat) ({ cls := "VerseCommitteeModel", name := "companyOf", desc := "(I)I" } : Jvm.MethodName)) ∈ BIG := tb_9 47 rfl rfl
set_option maxRecDepth 100000 in
theorem w_d8b77054 : (Jvm.Cond.instanceMethod ({ cls := "VerseCommitteeModel", name := "companyOf", desc := "(I)I" } : Jvm.MethodName)) ∈ BIG := tb_9 49 rfl rfl
set_option maxRecDepth 100000 in
theorem w_ca5fe270 : (Jvm.Cond.code ({ cls := "VerseCommitteeModel", name := "companyOf", desc := "(I)I" } : Jvm.MethodName) prog_14_method_25_code (3 : Nat) (Option.some Jvm.ClassFile.FieldType.int)) ∈ BIG := tb_9 50 rfl rfl
set_option maxRecDepth 100000 in
theorem w_900c73ff : (Jvm.Cond.methodLink "VerseCommitteeModel" (400 : Nat) ({ cls := "VerseCommitteeModel", name := "daysOf", desc := "(II)I" } : Jvm.MethodName)) ∈ BIG := tb_9 51 rfl rfl
set_option maxRecDepth 100000 in
theorem w_a61cf497 : (Jvm.Cond.instanceMethod ({ cls := "VerseCommitteeModel", name := "daysOf", desc := "(II)I" } : Jvm.MethodName)) ∈ BIG := tb_9 53 rfl rfl
set_option maxRecDepth 100000 in
theorem w_b77ee6c4 : (Jvm.Cond.code ({ cls := "VerseCommitteeModel", name := "daysOf", desc := "(II)I" } : Jvm.MethodName) prog_14_method_57_code (4 : Nat) (Option.some Jvm.ClassFile.FieldType.int)) ∈ BIG := tb_9 54 rfl rfl
set_option maxRecDepth 100000 in
theorem w_765ad432 : (Jvm.Cond.methodLink "VerseCommitteeModel" (392 : Nat) ({ cls := "VerseCommitteeModel", name := "copyOf", desc := "(II)I" } : Jvm.MethodName)) ∈ BIG := tb_9 55 rfl rfl
set_option maxRecDepth 100000 in
theorem w_abfc8ba4 : (Jvm.Cond.instanceMethod ({ cls := "VerseCommitteeModel", name := "copyOf", desc := "(II)I" } : Jvm.MethodName)) ∈ BIG := tb_9 57 rfl rfl
set_option maxRecDepth 100000 in
theorem w_edde2bce : (Jvm.Cond.code ({ cls := "VerseCommitteeModel", name := "copyOf", desc := "(II)I" } : Jvm.MethodName) prog_14_method_54_code (8 : Nat) (Option.some Jvm.ClassFile.FieldType.int)) ∈ BIG := tb_9 58 rfl rfl
set_option maxRecDepth 100000 in
theorem w_2ea61305 : (Jvm.Cond.methodLink "VerseCommitteeModel" (403 : Nat) ({ cls := "VerseCommitteeModel", name := "tokensOf", desc := "(II)I" } : Jvm.MethodName)) ∈ BIG := tb_9 59 rfl rfl
set_option maxRecDepth 100000 in
theorem w_f1acc0a0 : (Jvm.Cond.instanceMethod ({ cls := "VerseCommitteeModel", name := "tokensOf", desc := "(II)I" } : Jvm.MethodName)) ∈ BIG := tb_9 61 rfl rfl
set_option maxRecDepth 100000 in
theorem w_5457891a : (Jvm.Cond.code ({ cls := "VerseCommitteeModel", name := "tokensOf", desc := "(II)I" } : Jvm.MethodName) prog_14_method_55_code (4 : Nat) (Option.some Jvm.ClassFile.FieldType.int)) ∈ BIG := tb_9 62 rfl rfl
set_option maxRecDepth 100000 in
theorem w_a6c11485 : (Jvm.Cond.methodLink "VerseCommitteeLaw" (67 : Nat) ({ cls := "VerseCommitteeModel", name := "holds", desc := "(IIII)I" } : Jvm.MethodName)) ∈ BIG := tb_9 63 rfl rfl
set_option maxRecDepth 100000 in
theorem w_f865855e : (Jvm.Cond.instanceMethod ({ cls := "VerseCommitteeModel", name := "holds", desc := "(IIII)I" } : Jvm.MethodName)) ∈ BIG := tb_9 64 rfl rfl
set_option maxRecDepth 100000 in
theorem w_37519205 : (Jvm.Cond.selects "VerseCommitteeModel" ({ cls := "VerseCommitteeModel", name := "holds", desc := "(IIII)I" } : Jvm.MethodName) ({ cls := "VerseCommitteeModel", name := "holds", desc := "(IIII)I" } : Jvm.MethodName)) ∈ BIG := tb_9 65 rfl rfl
set_option maxRecDepth 100000 in
theorem w_470fea27 : (Jvm.Cond.code ({ cls := "VerseCommitteeModel", name := "holds", desc := "(IIII)I" } : Jvm.MethodName) prog_14_method_63_code (5 : Nat) (Option.some Jvm.ClassFile.FieldType.int)) ∈ BIG := tb_9 66 rfl rfl
set_option maxRecDepth 100000 in
theorem w_22b9501b : (Jvm.Cond.methodLink "VerseCommitteeModel" (415 : Nat) ({ cls := "VerseCommitteeModel", name := "worth", desc := "(III)I" } : Jvm.MethodName)) ∈ BIG := tb_9 67 rfl rfl
set_option maxRecDepth 100000 in
theorem w_b877a440 : (Jvm.Cond.instanceMethod ({ cls := "VerseCommitteeModel", name := "worth", desc := "(III)I" } : Jvm.MethodName)) ∈ BIG := tb_9 69 rfl rfl
set_option maxRecDepth 100000 in
theorem w_ee15f630 : (Jvm.Cond.code ({ cls := "VerseCommitteeModel", name := "worth", desc := "(III)I" } : Jvm.MethodName) prog_14_method_62_code (7 : Nat) (Option.some Jvm.ClassFile.FieldType.int)) ∈ BIG := tb_9 70 rfl rfl
set_option maxRecDepth 100000 in
theorem w_336f7434 : (Jvm.Cond.methodLink "VerseCommitteeModel" (409 : Nat) ({ cls := "VerseCommitteeModel", name := "does", desc := "(II)V" } : Jvm.MethodName)) ∈ BIG := tb_9 71 rfl rfl
set_option maxRecDepth 100000 in
theorem w_4421b3e5 : (Jvm.Cond.instanceMethod ({ cls := "VerseCommitteeModel", name := "does", desc := "(II)V" } : Jvm.MethodName)) ∈ BIG := tb_9 73 rfl rfl
set_option maxRecDepth 100000 in
theorem w_b3ddb52f : (Jvm.Cond.code ({ cls := "VerseCommitteeModel", name := "does", desc := "(II)V" } : Jvm.MethodName) prog_14_method_61_code (4 : Nat) (Option.none : Option Jvm.ClassFile.FieldType)) ∈ BIG := tb_9 74 rfl rfl
set_option maxRecDepth 100000 in
theorem w_a70164e4 : (Jvm.Cond.methodLink "VerseCommitteeModel" (406 : Nat) ({ cls := "VerseCommitteeModel", name := "worked", desc := "(III)I" } : Jvm.MethodName)) ∈ BIG := tb_9 75 rfl rfl
set_option maxRecDepth 100000 in
theorem w_102a483e : (Jvm.Cond.static ({ cls := "VerseCommitteeModel", name := "worked", desc := "(III)I" } : Jvm.MethodName)) ∈ BIG := tb_9 76 rfl rfl
set_option maxRecDepth 100000 in
theorem w_5fda620e : (Jvm.Cond.code ({ cls := "VerseCommitteeModel", name := "worked", desc := "(III)I" } : Jvm.MethodName) prog_14_method_60_code (3 : Nat) (Option.some Jvm.ClassFile.FieldType.int)) ∈ BIG := tb_9 77 rfl rfl
set_option maxRecDepth 100000 in
theorem w_3ffe48c9 : (Jvm.Cond.methodLink "VerseCommitteeModel" (412 : Nat) ({ cls := "VerseCommitteeModel", name := "valueOf", desc := "(III)I" } : Jvm.MethodName)) ∈ BIG := tb_9 78 rfl rfl
set_option maxRecDepth 100000 in
theorem w_8684630a : (Jvm.Cond.instanceMethod ({ cls := "VerseCommitteeModel", name := "valueOf", desc := "(III)I" } : Jvm.MethodName)) ∈ BIG := tb_9 80 rfl rfl
set_option maxRecDepth 100000 in
theorem w_9cda8a9e : (Jvm.Cond.code ({ cls := "VerseCommitteeModel", name := "valueOf", desc := "(III)I" } : Jvm.MethodName) prog_14_method_59_code (4 : Nat) (Option.some Jvm.ClassFile.FieldType.int)) ∈ BIG := tb_9 81 rfl rfl
set_option maxRecDepth 100000 in
theorem w_05ff86ae : (Jvm.Cond.methodLink "VerseCommitteeLaw" (80 : Nat) ({ cls := "VerseCommitteeModel", name := "differ", desc := "(III)I" } : Jvm.MethodName)) ∈ BIG := tb_9 82 rfl rfl
set_option maxRecDepth 100000 in
theorem w_cc6f57a8 : (Jvm.Cond.instanceMethod ({ cls := "VerseCommitteeModel", name := "differ", desc := "(III)I" } : Jvm.MethodName)) ∈ BIG := tb_9 83 rfl rfl
set_option maxRecDepth 100000 in
theorem w_79a48d84 : (Jvm.Cond.selects "VerseCommitteeModel" ({ cls := "VerseCommitteeModel", name := "differ", desc := "(III)I" } : Jvm.MethodName) ({ cls := "VerseCommitteeModel", name := "differ", desc := "(III)I" } : Jvm.MethodName)) ∈ BIG := tb_9 84 rfl rfl
set_option maxRecDepth 100000 in
theorem w_7b03d626 : (Jvm.Cond.code ({ cls := "VerseCommitteeModel", name := "differ", desc := "(III)I" } : Jvm.MethodName) prog_14_method_65_code (7 : Nat) (Option.some Jvm.ClassFile.FieldType.int)) ∈ BIG := tb_9 85 rfl rfl
set_option maxRecDepth 100000 in
theorem w_b2bea0b7 : (Jvm.Cond.methodLink "VerseCommitteeModel" (418 : Nat) ({ cls := "VerseCommitteeModel", name := "fewest", desc := "(II)I" } : Jvm.MethodName)) ∈ BIG := tb_9 86 rfl rfl
set_option maxRecDepth 100000 in
theorem w_f547145a : (Jvm.Cond.instanceMethod ({ cls := "VerseCommitteeModel", name := "fewest", desc := "(II)I" } : Jvm.MethodName)) ∈ BIG := tb_9 88 rfl rfl
set_option maxRecDepth 100000 in
theorem w_389e7f0c : (Jvm.Cond.code ({ cls := "VerseCommitteeModel", name := "fewest", desc := "(II)I" } : Jvm.MethodName) prog_14_method_64_code (8 : Nat) (Option.some Jvm.ClassFile.FieldType.int)) ∈ BIG := tb_9 89 rfl rfl
set_option maxRecDepth 100000 in
theorem w_ea336212 : (Jvm.Cond.methodLink "VerseCommitteeLaw" (84 : Nat) ({ cls := "VerseCommitteeModel", name := "render", desc := "(III)I" } : Jvm.MethodName)) ∈ BIG := tb_9 90 rfl rfl
set_option maxRecDepth 100000 in
theorem w_91448f9c : (Jvm.Cond.instanceMethod ({ cls := "VerseCommitteeModel", name := "render", desc := "(III)I" } : Jvm.MethodName)) ∈ BIG := tb_9 91 rfl rfl
set_option maxRecDepth 100000 in
theorem w_95c82333 : (Jvm.Cond.selects "VerseCommitteeModel" ({ cls := "VerseCommitteeModel", name := "render", desc := "(III)I" } : Jvm.MethodName) ({ cls := "VerseCommitteeModel", name := "render", desc := "(III)I" } : Jvm.MethodName)) ∈ BIG := tb_9 92 rfl rfl
set_option maxRecDepth 100000 in
theorem w_695f5bab : (Jvm.Cond.code ({ cls := "VerseCommitteeModel", name := "render", desc := "(III)I" } : Jvm.MethodName) prog_14_method_67_code (8 : Nat) (Option.some Jvm.ClassFile.FieldType.int)) ∈ BIG := tb_9 93 rfl rfl
set_option maxRecDepth 100000 in
theorem w_974aaccb : (Jvm.Cond.methodLink "VerseCommitteeLaw" (89 : Nat) ({ cls := "VerseCommitteeModel", name := "vote", desc := "(IIZ)Z" } : Jvm.MethodName)) ∈ BIG := tb_9 94 rfl rfl
set_option maxRecDepth 100000 in
theorem w_8d3a098d : (Jvm.Cond.instanceMethod ({ cls := "VerseCommitteeModel", name := "vote", desc := "(IIZ)Z" } : Jvm.MethodName)) ∈ BIG := tb_9 95 rfl rfl
set_option maxRecDepth 100000 in
theorem w_6fcfb92a : (Jvm.Cond.selects "VerseCommitteeModel" ({ cls := "VerseCommitteeModel", name := "vote", desc := "(IIZ)Z" } : Jvm.MethodName) ({ cls := "VerseCommitteeModel", name := "vote", desc := "(IIZ)Z" } : Jvm.MethodName)) ∈ BIG := tb_9 96 rfl rfl
set_option maxRecDepth 100000 in
theorem w_c2f40d7d : (Jvm.Cond.code ({ cls := "VerseCommitteeModel", name := "vote", desc := "(IIZ)Z" } : Jvm.MethodName) prog_14_method_70_code (5 : Nat) (Option.some Jvm.ClassFile.FieldType.boolean)) ∈ BIG := tb_9 97 rfl rfl
set_option maxRecDepth 100000 in
theorem w_6ce2d7e7 : (Jvm.Cond.methodLink "VerseCommitteeModel" (427 : Nat) ({ cls := "VerseCommitteeModel", name := "isOpen", desc := "(I)Z" } : Jvm.MethodName)) ∈ BIG := tb_9 98 rfl rfl
set_option maxRecDepth 100000 in
theorem w_20087361 : (Jvm.Cond.instanceMethod ({ cls := "VerseCommitteeModel", name := "isOpen", desc := "(I)Z" } : Jvm.MethodName)) ∈ BIG := tb_9 100 rfl rfl
set_option maxRecDepth 100000 in
theorem w_b6838580 : (Jvm.Cond.code ({ cls := "VerseCommitteeModel", name := "isOpen", desc := "(I)Z" } : Jvm.MethodName) prog_14_method_69_code (2 : Nat) (Option.some Jvm.ClassFile.FieldType.boolean)) ∈ BIG := tb_9 101 rfl rfl
set_option maxRecDepth 100000 in
theorem w_678ef940 : (Jvm.Cond.methodLink "VerseCommitteeModel" (424 : Nat) ({ cls := "VerseCommitteeModel", name := "isRendering", desc := "(I)Z" } : Jvm.MethodName)) ∈ BIG := tb_9 102 rfl rfl
set_option maxRecDepth 100000 in
theorem w_9401b925 : (Jvm.Cond.instanceMethod ({ cls := "VerseCommitteeModel", name := "isRendering", desc := "(I)Z" } : Jvm.MethodName)) ∈ BIG := tb_9 104 rfl rfl
set_option maxRecDepth 100000 in
theorem w_7727d028 : (Jvm.Cond.code ({ cls := "VerseCommitteeModel", name := "isRendering", desc := "(I)Z" } : Jvm.MethodName) prog_14_method_66_code (2 : Nat) (Option.some Jvm.ClassFile.FieldType.boolean)) ∈ BIG := tb_9 105 rfl rfl
set_option maxRecDepth 100000 in
theorem w_ad3fc6b6 : (Jvm.Cond.methodLink "VerseCommitteeModel" (430 : Nat) ({ cls := "VerseCommitteeModel", name := "isOfStage", desc := "(III)Z" } : Jvm.MethodName)) ∈ BIG := tb_9 106 rfl rfl
set_option maxRecDepth 100000 in
theorem w_3615ddb4 : (Jvm.Cond.instanceMethod ({ cls := "VerseCommitteeModel", name := "isOfStage", desc := "(III)Z" } : Jvm.MethodName)) ∈ BIG := tb_9 108 rfl rfl
set_option maxRecDepth 100000 in
theorem w_f728246e : (Jvm.Cond.code ({ cls := "VerseCommitteeModel", name := "isOfStage", desc := "(III)Z" } : Jvm.MethodName) prog_14_method_68_code (4 : Nat) (Option.some Jvm.ClassFile.FieldType.boolean)) ∈ BIG := tb_9 109 rfl rfl
set_option maxRecDepth 100000 in
theorem w_aa82996e : (Jvm.Cond.methodLink "VerseCommitteeLaw" (93 : Nat) ({ cls := "VerseCommitteeModel", name := "close", desc := "(I)I" } : Jvm.MethodName)) ∈ BIG := tb_9 110 rfl rfl
set_option maxRecDepth 100000 in
theorem w_a31c6d11 : (Jvm.Cond.instanceMethod ({ cls := "VerseCommitteeModel", name := "close", desc := "(I)I" } : Jvm.MethodName)) ∈ BIG := tb_9 111 rfl rfl
set_option maxRecDepth 100000 in
theorem w_b6a93ec1 : (Jvm.Cond.selects "VerseCommitteeModel" ({ cls := "VerseCommitteeModel", name := "close", desc := "(I)I" } : Jvm.MethodName) ({ cls := "VerseCommitteeModel", name := "close", desc := "(I)I" } : Jvm.MethodName)) ∈ BIG := tb_9 112 rfl rfl
set_option maxRecDepth 100000 in
theorem w_0919aae7 : (Jvm.Cond.code ({ cls := "VerseCommitteeModel", name := "close", desc := "(I)I" } : Jvm.MethodName) prog_14_method_73_code (11 : Nat) (Option.some Jvm.ClassFile.FieldType.int)) ∈ BIG := tb_9 113 rfl rfl
set_option maxRecDepth 100000 in
theorem w_cace01de : (Jvm.Cond.methodLink "VerseCommitteeModel" (436 : Nat) ({ cls := "VerseCommitteeModel", name := "fixedOf", desc := "(I)I" } : Jvm.MethodName)) ∈ BIG := tb_9 114 rfl rfl
set_option maxRecDepth 100000 in
theorem w_b7412ead : (Jvm.Cond.instanceMethod ({ cls := "VerseCommitteeModel", name := "fixedOf", desc := "(I)I" } : Jvm.MethodName)) ∈ BIG := tb_9 116 rfl rfl
set_option maxRecDepth 100000 in
theorem w_8bb97565 : (Jvm.Cond.code ({ cls := "VerseCommitteeModel", name := "fixedOf", desc := "(I)I" } : Jvm.MethodName) prog_14_method_71_code (3 : Nat) (Option.some Jvm.ClassFile.FieldType.int)) ∈ BIG := tb_9 117 rfl rfl
set_option maxRecDepth 100000 in
theorem w_c5fe7ebb : (Jvm.Cond.methodLink "VerseCommitteeModel" (439 : Nat) ({ cls := "VerseCommitteeModel", name := "tells", desc := "(II)V" } : Jvm.MethodName)) ∈ BIG := tb_9 118 rfl rfl
set_option maxRecDepth 100000 in
theorem w_8a9196d9 : (Jvm.Cond.instanceMethod ({ cls := "VerseCommitteeModel", name := "tells", desc := "(II)V" } : Jvm.MethodName)) ∈ BIG := tb_9 120 rfl rfl
set_option maxRecDepth 100000 in
theorem w_7794a596 : (Jvm.Cond.code ({ cls := "VerseCommitteeModel", name := "tells", desc := "(II)V" } : Jvm.MethodName) prog_14_method_72_code (3 : Nat) (Option.none : Option Jvm.ClassFile.FieldType)) ∈ BIG := tb_9 121 rfl rfl
set_option maxRecDepth 100000 in
theorem w_ffe2779c : (Jvm.Cond.methodLink "VerseCommitteeLaw" (97 : Nat) ({ cls := "VerseCommitteeModel", name := "voids", desc := "(I)I" } : Jvm.MethodName)) ∈ BIG := tb_9 122 rfl rfl
set_option maxRecDepth 100000 in
theorem w_249a1c6c : (Jvm.Cond.instanceMethod ({ cls := "VerseCommitteeModel", name := "voids", desc := "(I)I" } : Jvm.MethodName)) ∈ BIG := tb_9 123 rfl rfl
set_option maxRecDepth 100000 in
theorem w_2b5676f4 : (Jvm.Cond.selects "VerseCommitteeModel" ({ cls := "VerseCommitteeModel", name := "voids", desc := "(I)I" } : Jvm.MethodName) ({ cls := "VerseCommitteeModel", name := "voids", desc := "(I)I" } : Jvm.MethodName)) ∈ BIG := tb_9 124 rfl rfl
set_option maxRecDepth 100000 in
theorem w_decef28a : (Jvm.Cond.code ({ cls := "VerseCommitteeModel", name := "voids", desc := "(I)I" } : Jvm.MethodName) prog_14_method_77_code (4 : Nat) (Option.some Jvm.ClassFile.FieldType.int)) ∈ BIG := tb_9 125 rfl rfl
set_option maxRecDepth 100000 in
theorem w_47c0078d : (Jvm.Cond.methodLink "VerseCommitteeModel" (448 : Nat) ({ cls := "VerseCommitteeModel", name := "goesBack", desc := "(II)I" } : Jvm.MethodName)) ∈ BIG := tb_9 126 rfl rfl
set_option maxRecDepth 100000 in
theorem w_25557e47 : (Jvm.Cond.instanceMethod ({ cls := "VerseCommitteeModel", name := "goesBack", desc := "(II)I" } : Jvm.MethodName)) ∈ BIG := tb_9 128 rfl rfl
set_option maxRecDepth 100000 in
theorem w_378bda18 : (Jvm.Cond.code ({ cls := "VerseCommitteeModel", name := "goesBack", desc := "(II)I" } : Jvm.MethodName) prog_14_method_76_code (5 : Nat) (Option.some Jvm.ClassFile.FieldType.int)) ∈ BIG := tb_9 129 rfl rfl
set_option maxRecDepth 100000 in
theorem w_c3d42dc4 : (Jvm.Cond.methodLink "VerseCommitteeModel" (442 : Nat) ({ cls := "VerseCommitteeModel", name := "goesWithout", desc := "(II)Z" } : Jvm.MethodName)) ∈ BIG := tb_9 130 rfl rfl
set_option maxRecDepth 100000 in
theorem w_bac73fba : (Jvm.Cond.instanceMethod ({ cls := "VerseCommitteeModel", name := "goesWithout", desc := "(II)Z" } : Jvm.MethodName)) ∈ BIG := tb_9 132 rfl rfl
set_option maxRecDepth 100000 in
theorem w_b8fe85cf : (Jvm.Cond.code ({ cls := "VerseCommitteeModel", name := "goesWithout", desc := "(II)Z" } : Jvm.MethodName) prog_14_method_74_code (3 : Nat) (Option.some Jvm.ClassFile.FieldType.boolean)) ∈ BIG := tb_9 133 rfl rfl
set_option maxRecDepth 100000 in
theorem w_87d6aece : (Jvm.Cond.methodLink "VerseCommitteeModel" (445 : Nat) ({ cls := "VerseCommitteeModel", name := "unfixes", desc := "(I)V" } : Jvm.MethodName)) ∈ BIG := tb_9 134 rfl rfl
set_option maxRecDepth 100000 in
theorem w_612ad2d4 : (Jvm.Cond.instanceMethod ({ cls := "VerseCommitteeModel", name := "unfixes", desc := "(I)V" } : Jvm.MethodName)) ∈ BIG := tb_9 136 rfl rfl
set_option maxRecDepth 100000 in
theorem w_91d218e9 : (Jvm.Cond.code ({ cls := "VerseCommitteeModel", name := "unfixes", desc := "(I)V" } : Jvm.MethodName) prog_14_method_75_code (2 : Nat) (Option.none : Option Jvm.ClassFile.FieldType)) ∈ BIG := tb_9 137 rfl rfl
set_option maxRecDepth 100000 in
theorem w_fb4ab446 : (Jvm.Cond.methodLink "VerseCommitteeLaw" (101 : Nat) ({ cls := "VerseCommitteeModel", name := "fixed", desc := "(I)I" } : Jvm.MethodName)) ∈ BIG := tb_9 138 rfl rfl
set_option maxRecDepth 100000 in
theorem w_dc1fbd86 : (Jvm.Cond.instanceMethod ({ cls := "VerseCommitteeModel", name := "fixed", desc := "(I)I" } : Jvm.MethodName)) ∈ BIG := tb_9 139 rfl rfl
set_option maxRecDepth 100000 in
theorem w_305ae2f2 : (Jvm.Cond.selects "VerseCommitteeModel" ({ cls := "VerseCommitteeModel", name := "fixed", desc := "(I)I" } : Jvm.MethodName) ({ cls := "VerseCommitteeModel", name := "fixed", desc := "(I)I" } : Jvm.MethodName)) ∈ BIG := tb_9 140 rfl rfl
set_option maxRecDepth 100000 in
theorem w_735cc990 : (Jvm.Cond.code ({ cls := "VerseCommitteeModel", name := "fixed", desc := "(I)I" } : Jvm.MethodName) prog_14_method_78_code (2 : Nat) (Option.some Jvm.ClassFile.FieldType.int)) ∈ BIG := tb_9 141 rfl rfl
set_option maxRecDepth 100000 in
theorem w_fc7d9d5d : (Jvm.Cond.methodLink "VerseCommitteeLaw" (105 : Nat) ({ cls := "VerseCommitteeModel", name := "fixedOn", desc := "(II)I" } : Jvm.MethodName)) ∈ BIG := tb_9 142 rfl rfl
set_option maxRecDepth 100000 in
theorem w_7b976c0a : (Jvm.Cond.instanceMethod ({ cls := "VerseCommitteeModel", name := "fixedOn", desc := "(II)I" } : Jvm.MethodName)) ∈ BIG := tb_9 143 rfl rfl
set_option maxRecDepth 100000 in
theorem w_66738380 : (Jvm.Cond.selects "VerseCommitteeModel" ({ cls := "VerseCommitteeModel", name := "fixedOn", desc := "(II)I" } : Jvm.MethodName) ({ cls := "VerseCommitteeModel", name := "fixedOn", desc := "(II)I" } : Jvm.MethodName)) ∈ BIG := tb_9 144 rfl rfl
set_option maxRecDepth 100000 in
theorem w_04d863e7 : (Jvm.Cond.code ({ cls := "VerseCommitteeModel", name := "fixedOn", desc := "(II)I" } : Jvm.MethodName) prog_14_method_80_code (3 : Nat) (Option.some Jvm.ClassFile.FieldType.int)) ∈ BIG := tb_9 145 rfl rfl
set_option maxRecDepth 100000 in
theorem w_30d861f8 : (Jvm.Cond.methodLink "VerseCommitteeModel" (451 : Nat) ({ cls := "VerseCommitteeModel", name := "fixedAt", desc := "(II)I" } : Jvm.MethodName)) ∈ BIG := tb_9 146 rfl rfl
set_option maxRecDepth 100000 in
theorem w_071d620d : (Jvm.Cond.instanceMethod ({ cls := "VerseCommitteeModel", name := "fixedAt", desc := "(II)I" } : Jvm.MethodName)) ∈ BIG := tb_9 148 rfl rfl
set_option maxRecDepth 100000 in
theorem w_ab076474 : (Jvm.Cond.code ({ cls := "VerseCommitteeModel", name := "fixedAt", desc := "(II)I" } : Jvm.MethodName) prog_14_method_79_code (4 : Nat) (Option.some Jvm.ClassFile.FieldType.int)) ∈ BIG := tb_9 149 rfl rfl
set_option maxRecDepth 100000 in
theorem w_99c82c69 : (Jvm.Cond.methodLink "VerseCommitteeLaw" (109 : Nat) ({ cls := "VerseCommitteeModel", name := "breaches", desc := "(I)I" } : Jvm.MethodName)) ∈ BIG := tb_9 150 rfl rfl
set_option maxRecDepth 100000 in
theorem w_76c87f62 : (Jvm.Cond.instanceMethod ({ cls := "VerseCommitteeModel", name := "breaches", desc := "(I)I" } : Jvm.MethodName)) ∈ BIG := tb_9 151 rfl rfl
set_option maxRecDepth 100000 in
theorem w_6502be60 : (Jvm.Cond.selects "VerseCommitteeModel" ({ cls := "VerseCommitteeModel", name := "breaches", desc := "(I)I" } : Jvm.MethodName) ({ cls := "VerseCommitteeModel", name := "breaches", desc := "(I)I" } : Jvm.MethodName)) ∈ BIG := tb_9 152 rfl rfl
set_option maxRecDepth 100000 in
theorem w_d427f642 : (Jvm.Cond.code ({ cls := "VerseCommitteeModel", name := "breaches", desc := "(I)I" } : Jvm.MethodName) prog_14_method_84_code (2 : Nat) (Option.some Jvm.ClassFile.FieldType.int)) ∈ BIG := tb_9 153 rfl rfl
set_option maxRecDepth 100000 in
theorem w_cac2a7b7 : (Jvm.Cond.methodLink "VerseCommitteeModel" (466 : Nat) ({ cls := "VerseCommitteeModel", name := "breachesOf", desc := "(II)I" } : Jvm.MethodName)) ∈ BIG := tb_9 154 rfl rfl
set_option maxRecDepth 100000 in
theorem w_069cd8a1 : (Jvm.Cond.instanceMethod ({ cls := "VerseCommitteeModel", name := "breachesOf", desc := "(II)I" } : Jvm.MethodName)) ∈ BIG := tb_9 156 rfl rfl
set_option maxRecDepth 100000 in
theorem w_521b3cf5 : (Jvm.Cond.code ({ cls := "VerseCommitteeModel", name := "breachesOf", desc := "(II)I" } : Jvm.MethodName) prog_14_method_83_code (7 : Nat) (Option.some Jvm.ClassFile.FieldType.int)) ∈ BIG := tb_9 157 rfl rfl
