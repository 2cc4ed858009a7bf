/-! words of the tables by their places -/
set_option maxRecDepth 100000 in
theorem w_388c7f9f : (Jvm.Cond.selects "VerseCommittee$Rendering" ({ cls := "VerseCommittee$Rendering", name := "daysSinceFixed", desc := "(I)I" } : Jvm.MethodName) ({ cls := "VerseCommittee$Rendering", name := "daysSinceFixed", desc := "(I)I" } : Jvm.MethodName)) ∈ BIG := tb_5 39 rfl rfl
set_option maxRecDepth 100000 in
theorem w_eb5cba1c : (Jvm.Cond.code ({ cls := "VerseCommittee$Rendering", name := "daysSinceFixed", desc := "(I)I" } : Jvm.MethodName) prog_9_method_10_code (2 : Nat) (Option.some Jvm.ClassFile.FieldType.int)) ∈ BIG := tb_5 40 rfl rfl
set_option maxRecDepth 100000 in
theorem w_abdbe5e1 : (Jvm.Cond.methodLink "VerseCommittee" (267 : Nat) ({ cls := "VerseCommittee$Rendering", name := "keepVote", desc := "(II)V" } : Jvm.MethodName)) ∈ BIG := tb_5 41 rfl rfl
set_option maxRecDepth 100000 in
theorem w_c0561ab5 : (Jvm.Cond.instanceMethod ({ cls := "VerseCommittee$Rendering", name := "keepVote", desc := "(II)V" } : Jvm.MethodName)) ∈ BIG := tb_5 42 rfl rfl
set_option maxRecDepth 100000 in
theorem w_a3f40f63 : (Jvm.Cond.selects "VerseCommittee$Rendering" ({ cls := "VerseCommittee$Rendering", name := "keepVote", desc := "(II)V" } : Jvm.MethodName) ({ cls := "VerseCommittee$Rendering", name := "keepVote", desc := "(II)V" } : Jvm.MethodName)) ∈ BIG := tb_5 43 rfl rfl
set_option maxRecDepth 100000 in
theorem w_d8bb3965 : (Jvm.Cond.code ({ cls := "VerseCommittee$Rendering", name := "keepVote", desc := "(II)V" } : Jvm.MethodName) prog_9_method_15_code (4 : Nat) (Option.none : Option Jvm.ClassFile.FieldType)) ∈ BIG := tb_5 44 rfl rfl
set_option maxRecDepth 100000 in
theorem w_d8d858bb : (Jvm.Cond.methodLink "VerseCommittee" (270 : Nat) ({ cls := "VerseCommittee$Shelf", name := "fix", desc := "(ILVerseCommittee$Rendering;I)V" } : Jvm.MethodName)) ∈ BIG := tb_5 45 rfl rfl
set_option maxRecDepth 100000 in
theorem w_faf063ab : (Jvm.Cond.instanceMethod ({ cls := "VerseCommittee$Shelf", name := "fix", desc := "(ILVerseCommittee$Rendering;I)V" } : Jvm.MethodName)) ∈ BIG := tb_5 46 rfl rfl
set_option maxRecDepth 100000 in
theorem w_73b07b4b : (Jvm.Cond.selects "VerseCommittee$Shelf" ({ cls := "VerseCommittee$Shelf", name := "fix", desc := "(ILVerseCommittee$Rendering;I)V" } : Jvm.MethodName) ({ cls := "VerseCommittee$Shelf", name := "fix", desc := "(ILVerseCommittee$Rendering;I)V" } : Jvm.MethodName)) ∈ BIG := tb_5 47 rfl rfl
set_option maxRecDepth 100000 in
theorem w_df2fc738 : (Jvm.Cond.code ({ cls := "VerseCommittee$Shelf", name := "fix", desc := "(ILVerseCommittee$Rendering;I)V" } : Jvm.MethodName) prog_10_method_12_code (5 : Nat) (Option.none : Option Jvm.ClassFile.FieldType)) ∈ BIG := tb_5 48 rfl rfl
set_option maxRecDepth 100000 in
theorem w_f46a99cd : (Jvm.Cond.methodLink "VerseCommittee$Shelf" (59 : Nat) ({ cls := "VerseCommittee$Rendering", name := "verseNumber", desc := "()I" } : Jvm.MethodName)) ∈ BIG := tb_5 49 rfl rfl
set_option maxRecDepth 100000 in
theorem w_ebf6934e : (Jvm.Cond.methodLink "VerseCommittee$Shelf" (62 : Nat) ({ cls := "VerseCommittee$Rendering", name := "enterState", desc := "(I)V" } : Jvm.MethodName)) ∈ BIG := tb_5 50 rfl rfl
set_option maxRecDepth 100000 in
theorem w_645ce3ce : (Jvm.Cond.instanceMethod ({ cls := "VerseCommittee$Rendering", name := "enterState", desc := "(I)V" } : Jvm.MethodName)) ∈ BIG := tb_5 51 rfl rfl
set_option maxRecDepth 100000 in
theorem w_003a194b : (Jvm.Cond.selects "VerseCommittee$Rendering" ({ cls := "VerseCommittee$Rendering", name := "enterState", desc := "(I)V" } : Jvm.MethodName) ({ cls := "VerseCommittee$Rendering", name := "enterState", desc := "(I)V" } : Jvm.MethodName)) ∈ BIG := tb_5 52 rfl rfl
set_option maxRecDepth 100000 in
theorem w_43938b14 : (Jvm.Cond.code ({ cls := "VerseCommittee$Rendering", name := "enterState", desc := "(I)V" } : Jvm.MethodName) prog_9_method_16_code (2 : Nat) (Option.none : Option Jvm.ClassFile.FieldType)) ∈ BIG := tb_5 53 rfl rfl
set_option maxRecDepth 100000 in
theorem w_47ece01d : (Jvm.Cond.methodLink "VerseCommittee$Shelf" (66 : Nat) ({ cls := "VerseCommittee$Rendering", name := "becomeFixed", desc := "(I)V" } : Jvm.MethodName)) ∈ BIG := tb_5 54 rfl rfl
set_option maxRecDepth 100000 in
theorem w_5bbc6af9 : (Jvm.Cond.instanceMethod ({ cls := "VerseCommittee$Rendering", name := "becomeFixed", desc := "(I)V" } : Jvm.MethodName)) ∈ BIG := tb_5 55 rfl rfl
set_option maxRecDepth 100000 in
theorem w_0e6c2c5f : (Jvm.Cond.selects "VerseCommittee$Rendering" ({ cls := "VerseCommittee$Rendering", name := "becomeFixed", desc := "(I)V" } : Jvm.MethodName) ({ cls := "VerseCommittee$Rendering", name := "becomeFixed", desc := "(I)V" } : Jvm.MethodName)) ∈ BIG := tb_5 56 rfl rfl
set_option maxRecDepth 100000 in
theorem w_90a879ee : (Jvm.Cond.code ({ cls := "VerseCommittee$Rendering", name := "becomeFixed", desc := "(I)V" } : Jvm.MethodName) prog_9_method_17_code (2 : Nat) (Option.none : Option Jvm.ClassFile.FieldType)) ∈ BIG := tb_5 57 rfl rfl
set_option maxRecDepth 100000 in
theorem w_eb8c753c : (Jvm.Cond.methodLink "VerseCommittee$Shelf" (69 : Nat) ({ cls := "VerseCommittee$Shelf", name := "setFixed", desc := "(III)V" } : Jvm.MethodName)) ∈ BIG := tb_5 58 rfl rfl
set_option maxRecDepth 100000 in
theorem w_5aeeefc7 : (Jvm.Cond.instanceMethod ({ cls := "VerseCommittee$Shelf", name := "setFixed", desc := "(III)V" } : Jvm.MethodName)) ∈ BIG := tb_5 60 rfl rfl
set_option maxRecDepth 100000 in
theorem w_57923989 : (Jvm.Cond.code ({ cls := "VerseCommittee$Shelf", name := "setFixed", desc := "(III)V" } : Jvm.MethodName) prog_10_method_14_code (4 : Nat) (Option.none : Option Jvm.ClassFile.FieldType)) ∈ BIG := tb_5 61 rfl rfl
set_option maxRecDepth 100000 in
theorem w_bd0bf2b7 : (Jvm.Cond.methodLink "VerseCommittee" (274 : Nat) ({ cls := "VerseCommittee$Rendering", name := "enterState", desc := "(I)V" } : Jvm.MethodName)) ∈ BIG := tb_5 62 rfl rfl
set_option maxRecDepth 100000 in
theorem w_dc4c3313 : (Jvm.Cond.methodLink "VerseCommittee" (277 : Nat) ({ cls := "VerseCommittee$Rendering", name := "stateNumber", desc := "()I" } : Jvm.MethodName)) ∈ BIG := tb_5 63 rfl rfl
set_option maxRecDepth 100000 in
theorem w_9c99305b : (Jvm.Cond.instanceMethod ({ cls := "VerseCommittee$Rendering", name := "stateNumber", desc := "()I" } : Jvm.MethodName)) ∈ BIG := tb_5 64 rfl rfl
set_option maxRecDepth 100000 in
theorem w_a9704daa : (Jvm.Cond.selects "VerseCommittee$Rendering" ({ cls := "VerseCommittee$Rendering", name := "stateNumber", desc := "()I" } : Jvm.MethodName) ({ cls := "VerseCommittee$Rendering", name := "stateNumber", desc := "()I" } : Jvm.MethodName)) ∈ BIG := tb_5 65 rfl rfl
set_option maxRecDepth 100000 in
theorem w_7d82910d : (Jvm.Cond.code ({ cls := "VerseCommittee$Rendering", name := "stateNumber", desc := "()I" } : Jvm.MethodName) prog_9_method_4_code (1 : Nat) (Option.some Jvm.ClassFile.FieldType.int)) ∈ BIG := tb_5 66 rfl rfl
set_option maxRecDepth 100000 in
theorem w_65ecb956 : (Jvm.Cond.methodLink "VerseCommitteeLaw" (94 : Nat) ({ cls := "VerseCommittee", name := "voids", desc := "(I)I" } : Jvm.MethodName)) ∈ BIG := tb_5 67 rfl rfl
set_option maxRecDepth 100000 in
theorem w_3ecde7bb : (Jvm.Cond.instanceMethod ({ cls := "VerseCommittee", name := "voids", desc := "(I)I" } : Jvm.MethodName)) ∈ BIG := tb_5 68 rfl rfl
set_option maxRecDepth 100000 in
theorem w_a082927b : (Jvm.Cond.selects "VerseCommittee" ({ cls := "VerseCommittee", name := "voids", desc := "(I)I" } : Jvm.MethodName) ({ cls := "VerseCommittee", name := "voids", desc := "(I)I" } : Jvm.MethodName)) ∈ BIG := tb_5 69 rfl rfl
set_option maxRecDepth 100000 in
theorem w_ed119f70 : (Jvm.Cond.code ({ cls := "VerseCommittee", name := "voids", desc := "(I)I" } : Jvm.MethodName) prog_1_method_20_code (2 : Nat) (Option.some Jvm.ClassFile.FieldType.int)) ∈ BIG := tb_5 70 rfl rfl
set_option maxRecDepth 100000 in
theorem w_be552470 : (Jvm.Cond.methodLink "VerseCommittee" (280 : Nat) ({ cls := "VerseCommittee$People", name := "makeVoid", desc := "(I)V" } : Jvm.MethodName)) ∈ BIG := tb_5 71 rfl rfl
set_option maxRecDepth 100000 in
theorem w_b9cdbe57 : (Jvm.Cond.instanceMethod ({ cls := "VerseCommittee$People", name := "makeVoid", desc := "(I)V" } : Jvm.MethodName)) ∈ BIG := tb_5 72 rfl rfl
set_option maxRecDepth 100000 in
theorem w_218e062c : (Jvm.Cond.selects "VerseCommittee$People" ({ cls := "VerseCommittee$People", name := "makeVoid", desc := "(I)V" } : Jvm.MethodName) ({ cls := "VerseCommittee$People", name := "makeVoid", desc := "(I)V" } : Jvm.MethodName)) ∈ BIG := tb_5 73 rfl rfl
set_option maxRecDepth 100000 in
theorem w_52a2a59e : (Jvm.Cond.code ({ cls := "VerseCommittee$People", name := "makeVoid", desc := "(I)V" } : Jvm.MethodName) prog_6_method_11_code (2 : Nat) (Option.none : Option Jvm.ClassFile.FieldType)) ∈ BIG := tb_5 74 rfl rfl
set_option maxRecDepth 100000 in
theorem w_a7615b14 : (Jvm.Cond.methodLink "VerseCommittee" (283 : Nat) ({ cls := "VerseCommittee$Shelf", name := "withdraw", desc := "(II)I" } : Jvm.MethodName)) ∈ BIG := tb_5 75 rfl rfl
set_option maxRecDepth 100000 in
theorem w_dd11a528 : (Jvm.Cond.instanceMethod ({ cls := "VerseCommittee$Shelf", name := "withdraw", desc := "(II)I" } : Jvm.MethodName)) ∈ BIG := tb_5 76 rfl rfl
set_option maxRecDepth 100000 in
theorem w_ac47613b : (Jvm.Cond.selects "VerseCommittee$Shelf" ({ cls := "VerseCommittee$Shelf", name := "withdraw", desc := "(II)I" } : Jvm.MethodName) ({ cls := "VerseCommittee$Shelf", name := "withdraw", desc := "(II)I" } : Jvm.MethodName)) ∈ BIG := tb_5 77 rfl rfl
set_option maxRecDepth 100000 in
theorem w_acbcd420 : (Jvm.Cond.code ({ cls := "VerseCommittee$Shelf", name := "withdraw", desc := "(II)I" } : Jvm.MethodName) prog_10_method_13_code (7 : Nat) (Option.some Jvm.ClassFile.FieldType.int)) ∈ BIG := tb_5 78 rfl rfl
set_option maxRecDepth 100000 in
theorem w_17375193 : (Jvm.Cond.methodLink "VerseCommittee$Shelf" (73 : Nat) ({ cls := "VerseCommittee$Rendering", name := "takeOut", desc := "(I)I" } : Jvm.MethodName)) ∈ BIG := tb_5 79 rfl rfl
set_option maxRecDepth 100000 in
theorem w_a849a0df : (Jvm.Cond.instanceMethod ({ cls := "VerseCommittee$Rendering", name := "takeOut", desc := "(I)I" } : Jvm.MethodName)) ∈ BIG := tb_5 80 rfl rfl
set_option maxRecDepth 100000 in
theorem w_4024e718 : (Jvm.Cond.selects "VerseCommittee$Rendering" ({ cls := "VerseCommittee$Rendering", name := "takeOut", desc := "(I)I" } : Jvm.MethodName) ({ cls := "VerseCommittee$Rendering", name := "takeOut", desc := "(I)I" } : Jvm.MethodName)) ∈ BIG := tb_5 81 rfl rfl
set_option maxRecDepth 100000 in
theorem w_d14c092a : (Jvm.Cond.code ({ cls := "VerseCommittee$Rendering", name := "takeOut", desc := "(I)I" } : Jvm.MethodName) prog_9_method_18_code (2 : Nat) (Option.some Jvm.ClassFile.FieldType.int)) ∈ BIG := tb_5 82 rfl rfl
set_option maxRecDepth 100000 in
theorem w_46691917 : (Jvm.Cond.methodLink "VerseCommittee$Rendering" (72 : Nat) ({ cls := "VerseCommittee$Rendering", name := "standsWithout", desc := "(II)Z" } : Jvm.MethodName)) ∈ BIG := tb_5 83 rfl rfl
set_option maxRecDepth 100000 in
theorem w_d8727b0f : (Jvm.Cond.instanceMethod ({ cls := "VerseCommittee$Rendering", name := "standsWithout", desc := "(II)Z" } : Jvm.MethodName)) ∈ BIG := tb_5 85 rfl rfl
set_option maxRecDepth 100000 in
theorem w_7380bc88 : (Jvm.Cond.code ({ cls := "VerseCommittee$Rendering", name := "standsWithout", desc := "(II)Z" } : Jvm.MethodName) prog_9_method_20_code (3 : Nat) (Option.some Jvm.ClassFile.FieldType.boolean)) ∈ BIG := tb_5 86 rfl rfl
set_option maxRecDepth 100000 in
theorem w_9f525a8b : (Jvm.Cond.methodLink "VerseCommittee$Shelf" (49 : Nat) ({ cls := "VerseCommittee$Rendering", name := "stateNumber", desc := "()I" } : Jvm.MethodName)) ∈ BIG := tb_5 87 rfl rfl
set_option maxRecDepth 100000 in
theorem w_7911f22f : (Jvm.Cond.methodLink "VerseCommittee$Shelf" (76 : Nat) ({ cls := "VerseCommittee$Rendering", name := "goBack", desc := "(I)V" } : Jvm.MethodName)) ∈ BIG := tb_5 88 rfl rfl
set_option maxRecDepth 100000 in
theorem w_0370dd8d : (Jvm.Cond.instanceMethod ({ cls := "VerseCommittee$Rendering", name := "goBack", desc := "(I)V" } : Jvm.MethodName)) ∈ BIG := tb_5 89 rfl rfl
set_option maxRecDepth 100000 in
theorem w_132ff182 : (Jvm.Cond.selects "VerseCommittee$Rendering" ({ cls := "VerseCommittee$Rendering", name := "goBack", desc := "(I)V" } : Jvm.MethodName) ({ cls := "VerseCommittee$Rendering", name := "goBack", desc := "(I)V" } : Jvm.MethodName)) ∈ BIG := tb_5 90 rfl rfl
set_option maxRecDepth 100000 in
theorem w_20938a50 : (Jvm.Cond.code ({ cls := "VerseCommittee$Rendering", name := "goBack", desc := "(I)V" } : Jvm.MethodName) prog_9_method_19_code (2 : Nat) (Option.none : Option Jvm.ClassFile.FieldType)) ∈ BIG := tb_5 91 rfl rfl
set_option maxRecDepth 100000 in
theorem w_6e07ec7c : (Jvm.Cond.methodLink "VerseCommitteeLaw" (98 : Nat) ({ cls := "VerseCommittee", name := "fixed", desc := "(I)I" } : Jvm.MethodName)) ∈ BIG := tb_5 92 rfl rfl
set_option maxRecDepth 100000 in
theorem w_ba98b7b1 : (Jvm.Cond.instanceMethod ({ cls := "VerseCommittee", name := "fixed", desc := "(I)I" } : Jvm.MethodName)) ∈ BIG := tb_5 93 rfl rfl
set_option maxRecDepth 100000 in
theorem w_f952192f : (Jvm.Cond.selects "VerseCommittee" ({ cls := "VerseCommittee", name := "fixed", desc := "(I)I" } : Jvm.MethodName) ({ cls := "VerseCommittee", name := "fixed", desc := "(I)I" } : Jvm.MethodName)) ∈ BIG := tb_5 94 rfl rfl
set_option maxRecDepth 100000 in
theorem w_a74fe79d : (Jvm.Cond.code ({ cls := "VerseCommittee", name := "fixed", desc := "(I)I" } : Jvm.MethodName) prog_1_method_21_code (2 : Nat) (Option.some Jvm.ClassFile.FieldType.int)) ∈ BIG := tb_5 95 rfl rfl
set_option maxRecDepth 100000 in
theorem w_ac317d07 : (Jvm.Cond.methodLink "VerseCommittee" (286 : Nat) ({ cls := "VerseCommittee$Shelf", name := "fixedNumber", desc := "(I)I" } : Jvm.MethodName)) ∈ BIG := tb_5 96 rfl rfl
set_option maxRecDepth 100000 in
theorem w_ea55c330 : (Jvm.Cond.methodLink "VerseCommitteeLaw" (102 : Nat) ({ cls := "VerseCommittee", name := "fixedOn", desc := "(II)I" } : Jvm.MethodName)) ∈ BIG := tb_5 97 rfl rfl
set_option maxRecDepth 100000 in
theorem w_87d6eadd : (Jvm.Cond.instanceMethod ({ cls := "VerseCommittee", name := "fixedOn", desc := "(II)I" } : Jvm.MethodName)) ∈ BIG := tb_5 98 rfl rfl
set_option maxRecDepth 100000 in
theorem w_cbca2035 : (Jvm.Cond.selects "VerseCommittee" ({ cls := "VerseCommittee", name := "fixedOn", desc := "(II)I" } : Jvm.MethodName) ({ cls := "VerseCommittee", name := "fixedOn", desc := "(II)I" } : Jvm.MethodName)) ∈ BIG := tb_5 99 rfl rfl
set_option maxRecDepth 100000 in
theorem w_b6edabee : (Jvm.Cond.code ({ cls := "VerseCommittee", name := "fixedOn", desc := "(II)I" } : Jvm.MethodName) prog_1_method_22_code (3 : Nat) (Option.some Jvm.ClassFile.FieldType.int)) ∈ BIG := tb_5 100 rfl rfl
set_option maxRecDepth 100000 in
theorem w_b4b12ebe : (Jvm.Cond.methodLink "VerseCommittee" (289 : Nat) ({ cls := "VerseCommittee", name := "isPastDay", desc := "(I)Z" } : Jvm.MethodName)) ∈ BIG := tb_5 101 rfl rfl
set_option maxRecDepth 100000 in
theorem w_07125ae8 : (Jvm.Cond.instanceMethod ({ cls := "VerseCommittee", name := "isPastDay", desc := "(I)Z" } : Jvm.MethodName)) ∈ BIG := tb_5 103 rfl rfl
set_option maxRecDepth 100000 in
theorem w_8fe3ce0c : (Jvm.Cond.code ({ cls := "VerseCommittee", name := "isPastDay", desc := "(I)Z" } : Jvm.MethodName) prog_1_method_43_code (2 : Nat) (Option.some Jvm.ClassFile.FieldType.boolean)) ∈ BIG := tb_5 104 rfl rfl
set_option maxRecDepth 100000 in
theorem w_ecc91a3d : (Jvm.Cond.methodLink "VerseCommittee" (292 : Nat) ({ cls := "VerseCommittee$Shelf", name := "fixedThen", desc := "(II)I" } : Jvm.MethodName)) ∈ BIG := tb_5 105 rfl rfl
set_option maxRecDepth 100000 in
theorem w_a6677c0e : (Jvm.Cond.instanceMethod ({ cls := "VerseCommittee$Shelf", name := "fixedThen", desc := "(II)I" } : Jvm.MethodName)) ∈ BIG := tb_5 106 rfl rfl
set_option maxRecDepth 100000 in
theorem w_95e0e7ec : (Jvm.Cond.selects "VerseCommittee$Shelf" ({ cls := "VerseCommittee$Shelf", name := "fixedThen", desc := "(II)I" } : Jvm.MethodName) ({ cls := "VerseCommittee$Shelf", name := "fixedThen", desc := "(II)I" } : Jvm.MethodName)) ∈ BIG := tb_5 107 rfl rfl
set_option maxRecDepth 100000 in
theorem w_d7734d42 : (Jvm.Cond.code ({ cls := "VerseCommittee$Shelf", name := "fixedThen", desc := "(II)I" } : Jvm.MethodName) prog_10_method_8_code (4 : Nat) (Option.some Jvm.ClassFile.FieldType.int)) ∈ BIG := tb_5 108 rfl rfl
set_option maxRecDepth 100000 in
theorem w_75676819 : (Jvm.Cond.methodLink "VerseCommitteeLaw" (106 : Nat) ({ cls := "VerseCommittee", name := "breaches", desc := "(I)I" } : Jvm.MethodName)) ∈ BIG := tb_5 109 rfl rfl
set_option maxRecDepth 100000 in
theorem w_68b45229 : (Jvm.Cond.instanceMethod ({ cls := "VerseCommittee", name := "breaches", desc := "(I)I" } : Jvm.MethodName)) ∈ BIG := tb_5 110 rfl rfl
set_option maxRecDepth 100000 in
theorem w_d06a0e36 : (Jvm.Cond.selects "VerseCommittee" ({ cls := "VerseCommittee", name := "breaches", desc := "(I)I" } : Jvm.MethodName) ({ cls := "VerseCommittee", name := "breaches", desc := "(I)I" } : Jvm.MethodName)) ∈ BIG := tb_5 111 rfl rfl
set_option maxRecDepth 100000 in
theorem w_14bfdc48 : (Jvm.Cond.code ({ cls := "VerseCommittee", name := "breaches", desc := "(I)I" } : Jvm.MethodName) prog_1_method_23_code (3 : Nat) (Option.some Jvm.ClassFile.FieldType.int)) ∈ BIG := tb_5 112 rfl rfl
set_option maxRecDepth 100000 in
theorem w_109c7c82 : (Jvm.Cond.methodLink "VerseCommittee" (295 : Nat) ({ cls := "VerseCommittee$Findings", name := "seekBreach", desc := "(LVerseCommittee$Rendering;II)Z" } : Jvm.MethodName)) ∈ BIG := tb_5 113 rfl rfl
set_option maxRecDepth 100000 in
theorem w_d5b56ae1 : (Jvm.Cond.instanceMethod ({ cls := "VerseCommittee$Findings", name := "seekBreach", desc := "(LVerseCommittee$Rendering;II)Z" } : Jvm.MethodName)) ∈ BIG := tb_5 114 rfl rfl
set_option maxRecDepth 100000 in
theorem w_9ce54d86 : (Jvm.Cond.selects "VerseCommittee$Findings" ({ cls := "VerseCommittee$Findings", name := "seekBreach", desc := "(LVerseCommittee$Rendering;II)Z" } : Jvm.MethodName) ({ cls := "VerseCommittee$Findings", name := "seekBreach", desc := "(LVerseCommittee$Rendering;II)Z" } : Jvm.MethodName)) ∈ BIG := tb_5 115 rfl rfl
set_option maxRecDepth 100000 in
theorem w_941c1815 : (Jvm.Cond.code ({ cls := "VerseCommittee$Findings", name := "seekBreach", desc := "(LVerseCommittee$Rendering;II)Z" } : Jvm.MethodName) prog_3_method_4_code (8 : Nat) (Option.some Jvm.ClassFile.FieldType.boolean)) ∈ BIG := tb_5 116 rfl rfl
set_option maxRecDepth 100000 in
theorem w_56704d8e : (Jvm.Cond.methodLink "VerseCommittee$Findings" (53 : Nat) ({ cls := "VerseCommittee$Rendering", name := "tokenRow", desc := "()[I" } : Jvm.MethodName)) ∈ BIG := tb_5 117 rfl rfl
set_option maxRecDepth 100000 in
theorem w_1ff14ff1 : (Jvm.Cond.instanceMethod ({ cls := "VerseCommittee$Rendering", name := "tokenRow", desc := "()[I" } : Jvm.MethodName)) ∈ BIG := tb_5 118 rfl rfl
set_option maxRecDepth 100000 in
theorem w_ff364d43 : (Jvm.Cond.selects "VerseCommittee$Rendering" ({ cls := "VerseCommittee$Rendering", name := "tokenRow", desc := "()[I" } : Jvm.MethodName) ({ cls := "VerseCommittee$Rendering", name := "tokenRow", desc := "()[I" } : Jvm.MethodName)) ∈ BIG := tb_5 119 rfl rfl
set_option maxRecDepth 100000 in
theorem w_70b476c3 : (Jvm.Cond.code ({ cls := "VerseCommittee$Rendering", name := "tokenRow", desc := "()[I" } : Jvm.MethodName) prog_9_method_5_code (1 : Nat) (Option.some (Jvm.ClassFile.FieldType.array Jvm.ClassFile.FieldType.int))) ∈ BIG := tb_5 120 rfl rfl
set_option maxRecDepth 100000 in
theorem w_3e8bf591 : (Jvm.Cond.methodLink "VerseCommittee$Findings" (59 : Nat) ({ cls := "VerseCommittee$Rendering", name := "verseNumber", desc := "()I" } : Jvm.MethodName)) ∈ BIG := tb_5 121 rfl rfl
set_option maxRecDepth 100000 in
theorem w_69522f21 : (Jvm.Cond.methodLink "VerseCommittee$Findings" (63 : Nat) ({ cls := "VerseCommittee$Findings", name := "gatherHeld", desc := "(II[I)V" } : Jvm.MethodName)) ∈ BIG := tb_5 122 rfl rfl
set_option maxRecDepth 100000 in
theorem w_22608dc3 : (Jvm.Cond.instanceMethod ({ cls := "VerseCommittee$Findings", name := "gatherHeld", desc := "(II[I)V" } : Jvm.MethodName)) ∈ BIG := tb_5 124 rfl rfl
set_option maxRecDepth 100000 in
theorem w_50c712e0 : (Jvm.Cond.code ({ cls := "VerseCommittee$Findings", name := "gatherHeld", desc := "(II[I)V" } : Jvm.MethodName) prog_3_method_8_code (7 : Nat) (Option.none : Option Jvm.ClassFile.FieldType)) ∈ BIG := tb_5 125 rfl rfl
set_option maxRecDepth 100000 in
theorem w_e72fad65 : (Jvm.Cond.methodLink "VerseCommittee$Findings" (85 : Nat) ({ cls := "VerseCommittee$Reckoner", name := "aim", desc := "(II)V" } : Jvm.MethodName)) ∈ BIG := tb_5 126 rfl rfl
set_option maxRecDepth 100000 in
theorem w_bfc46352 : (Jvm.Cond.methodLink "VerseCommittee$Findings" (109 : Nat) ({ cls := "VerseCommittee$Laws", name := "size", desc := "()I" } : Jvm.MethodName)) ∈ BIG := tb_5 127 rfl rfl
set_option maxRecDepth 100000 in
theorem w_d8fb525c : (Jvm.Cond.methodLink "VerseCommittee$Findings" (112 : Nat) ({ cls := "VerseCommittee$Reckoner", name := "isInForce", desc := "(I)Z" } : Jvm.MethodName)) ∈ BIG := tb_5 128 rfl rfl
set_option maxRecDepth 100000 in
theorem w_ce78072d : (Jvm.Cond.methodLink "VerseCommittee$Findings" (116 : Nat) ({ cls := "VerseCommittee$Laws", name := "clausesOf", desc := "(I)I" } : Jvm.MethodName)) ∈ BIG := tb_5 129 rfl rfl
set_option maxRecDepth 100000 in
theorem w_f3f9d20d : (Jvm.Cond.methodLink "VerseCommittee$Findings" (119 : Nat) ({ cls := "VerseCommittee$Laws", name := "clauseOf", desc := "(II)I" } : Jvm.MethodName)) ∈ BIG := tb_5 130 rfl rfl
set_option maxRecDepth 100000 in
theorem w_afbfab68 : (Jvm.Cond.methodLink "VerseCommittee$Findings" (123 : Nat) ({ cls := "VerseCommittee$Laws", name := "isOf", desc := "(II)Z" } : Jvm.MethodName)) ∈ BIG := tb_5 131 rfl rfl
set_option maxRecDepth 100000 in
theorem w_57d8926e : (Jvm.Cond.methodLink "VerseCommittee$Findings" (126 : Nat) ({ cls := "VerseCommittee$Laws", name := "speaksOfAny", desc := "(I[I)Z" } : Jvm.MethodName)) ∈ BIG := tb_5 132 rfl rfl
set_option maxRecDepth 100000 in
theorem w_a56ebfb7 : (Jvm.Cond.instanceMethod ({ cls := "VerseCommittee$Laws", name := "speaksOfAny", desc := "(I[I)Z" } : Jvm.MethodName)) ∈ BIG := tb_5 133 rfl rfl
set_option maxRecDepth 100000 in
theorem w_f48fe6f6 : (Jvm.Cond.selects "VerseCommittee$Laws" ({ cls := "VerseCommittee$Laws", name := "speaksOfAny", desc := "(I[I)Z" } : Jvm.MethodName) ({ cls := "VerseCommittee$Laws", name := "speaksOfAny", desc := "(I[I)Z" } : Jvm.MethodName)) ∈ BIG := tb_5 134 rfl rfl
set_option maxRecDepth 100000 in
theorem w_d7f6c8c9 : (Jvm.Cond.code ({ cls := "VerseCommittee$Laws", name := "speaksOfAny", desc := "(I[I)Z" } : Jvm.MethodName) prog_4_method_21_code (4 : Nat) (Option.some Jvm.ClassFile.FieldType.boolean)) ∈ BIG := tb_5 135 rfl rfl
set_option maxRecDepth 100000 in
theorem w_9a4fc2d1 : (Jvm.Cond.methodLink "VerseCommittee$Laws" (67 : Nat) ({ cls := "VerseCommittee$Laws", name := "speaksOf", desc := "(II)Z" } : Jvm.MethodName)) ∈ BIG := tb_5 136 rfl rfl
set_option maxRecDepth 100000 in
theorem w_f2c8c85c : (Jvm.Cond.instanceMethod ({ cls := "VerseCommittee$Laws", name := "speaksOf", desc := "(II)Z" } : Jvm.MethodName)) ∈ BIG := tb_5 137 rfl rfl
set_option maxRecDepth 100000 in
theorem w_252931f7 : (Jvm.Cond.selects "VerseCommittee$Laws" ({ cls := "VerseCommittee$Laws", name := "speaksOf", desc := "(II)Z" } : Jvm.MethodName) ({ cls := "VerseCommittee$Laws", name := "speaksOf", desc := "(II)Z" } : Jvm.MethodName)) ∈ BIG := tb_5 138 rfl rfl
set_option maxRecDepth 100000 in
theorem w_796b769a : (Jvm.Cond.code ({ cls := "VerseCommittee$Laws", name := "speaksOf", desc := "(II)Z" } : Jvm.MethodName) prog_4_method_20_code (3 : Nat) (Option.some Jvm.ClassFile.FieldType.boolean)) ∈ BIG := tb_5 139 rfl rfl
set_option maxRecDepth 100000 in
theorem w_54a69b2a : (Jvm.Cond.methodLink "VerseCommittee$Findings" (130 : Nat) ({ cls := "VerseCommittee$Reckoner", name := "verdict", desc := "(I)I" } : Jvm.MethodName)) ∈ BIG := tb_5 140 rfl rfl
set_option maxRecDepth 100000 in
theorem w_129d722d : (Jvm.Cond.methodLink "VerseCommittee$Findings" (70 : Nat) ({ cls := "VerseCommittee$Laws", name := "speaksOf", desc := "(II)Z" } : Jvm.MethodName)) ∈ BIG := tb_5 141 rfl rfl
set_option maxRecDepth 100000 in
theorem w_f37e4cb2 : (Jvm.Cond.methodLink "VerseCommittee$Findings" (74 : Nat) ({ cls := "VerseCommittee$Laws", name := "value", desc := "(I)I" } : Jvm.MethodName)) ∈ BIG := tb_5 142 rfl rfl
set_option maxRecDepth 100000 in
theorem w_6ddcfc29 : (Jvm.Cond.methodLink "VerseCommittee$Findings" (78 : Nat) ({ cls := "VerseCommittee$Rendering", name := "isTurnedByOnly", desc := "(II)Z" } : Jvm.MethodName)) ∈ BIG := tb_5 143 rfl rfl
set_option maxRecDepth 100000 in
theorem w_59a7a5a6 : (Jvm.Cond.instanceMethod ({ cls := "VerseCommittee$Rendering", name := "isTurnedByOnly", desc := "(II)Z" } : Jvm.MethodName)) ∈ BIG := tb_5 144 rfl rfl
set_option maxRecDepth 100000 in
theorem w_2f9848a0 : (Jvm.Cond.selects "VerseCommittee$Rendering" ({ cls := "VerseCommittee$Rendering", name := "isTurnedByOnly", desc := "(II)Z" } : Jvm.MethodName) ({ cls := "VerseCommittee$Rendering", name := "isTurnedByOnly", desc := "(II)Z" } : Jvm.MethodName)) ∈ BIG := tb_5 145 rfl rfl
set_option maxRecDepth 100000 in
theorem w_2122157d : (Jvm.Cond.code ({ cls := "VerseCommittee$Rendering", name := "isTurnedByOnly", desc := "(II)Z" } : Jvm.MethodName) prog_9_method_22_code (5 : Nat) (Option.some Jvm.ClassFile.FieldType.boolean)) ∈ BIG := tb_5 146 rfl rfl
set_option maxRecDepth 100000 in
theorem w_f504dcd2 : (Jvm.Cond.methodLink "VerseCommittee$Findings" (81 : Nat) ({ cls := "VerseCommittee$Findings", name := "tellClause", desc := "(II)V" } : Jvm.MethodName)) ∈ BIG := tb_5 147 rfl rfl
set_option maxRecDepth 100000 in
theorem w_5c5807ab : (Jvm.Cond.instanceMethod ({ cls := "VerseCommittee$Findings", name := "tellClause", desc := "(II)V" } : Jvm.MethodName)) ∈ BIG := tb_5 149 rfl rfl
set_option maxRecDepth 100000 in
theorem w_f19989f6 : (Jvm.Cond.code ({ cls := "VerseCommittee$Findings", name := "tellClause", desc := "(II)V" } : Jvm.MethodName) prog_3_method_7_code (3 : Nat) (Option.none : Option Jvm.ClassFile.FieldType)) ∈ BIG := tb_5 150 rfl rfl
set_option maxRecDepth 100000 in
theorem w_c589431b : (Jvm.Cond.methodLink "VerseCommittee$Findings" (103 : Nat) ({ cls := "VerseCommittee$Laws", name := "rulesOf", desc := "(I)I" } : Jvm.MethodName)) ∈ BIG := tb_5 151 rfl rfl
set_option maxRecDepth 100000 in
theorem w_a574aecf : (Jvm.Cond.methodLink "VerseCommittee$Findings" (106 : Nat) ({ cls := "VerseCommittee$Laws", name := "placeOf", desc := "(I)I" } : Jvm.MethodName)) ∈ BIG := tb_5 152 rfl rfl
set_option maxRecDepth 100000 in
theorem w_a7dcdfbc : (Jvm.Cond.static ({ cls := "VerseCommittee$Laws", name := "placeOf", desc := "(I)I" } : Jvm.MethodName)) ∈ BIG := tb_5 153 rfl rfl
set_option maxRecDepth 100000 in
theorem w_0db22de1 : (Jvm.Cond.code ({ cls := "VerseCommittee$Laws", name := "placeOf", desc := "(I)I" } : Jvm.MethodName) prog_4_method_6_code (1 : Nat) (Option.some Jvm.ClassFile.FieldType.int)) ∈ BIG := tb_5 154 rfl rfl
set_option maxRecDepth 100000 in
theorem w_710e8868 : (Jvm.Cond.methodLink "VerseCommittee" (299 : Nat) ({ cls := "VerseCommittee$Findings", name := "seen", desc := "()I" } : Jvm.MethodName)) ∈ BIG := tb_5 155 rfl rfl
set_option maxRecDepth 100000 in
theorem w_69e312c4 : (Jvm.Cond.instanceMethod ({ cls := "VerseCommittee$Findings", name := "seen", desc := "()I" } : Jvm.MethodName)) ∈ BIG := tb_5 156 rfl rfl
set_option maxRecDepth 100000 in
theorem w_f49e9048 : (Jvm.Cond.selects "VerseCommittee$Findings" ({ cls := "VerseCommittee$Findings", name := "seen", desc := "()I" } : Jvm.MethodName) ({ cls := "VerseCommittee$Findings", name := "seen", desc := "()I" } : Jvm.MethodName)) ∈ BIG := tb_5 157 rfl rfl
set_option maxRecDepth 100000 in
theorem w_6230bdf9 : (Jvm.Cond.code ({ cls := "VerseCommittee$Findings", name := "seen", desc := "()I" } : Jvm.MethodName) prog_3_method_2_code (1 : Nat) (Option.some Jvm.ClassFile.FieldType.int)) ∈ BIG := tb_5 158 rfl rfl
set_option maxRecDepth 100000 in
theorem w_bf6b5d19 : (Jvm.Cond.methodLink "VerseCommitteeLaw" (110 : Nat) ({ cls := "VerseCommittee", name := "breach", desc := "(III)I" } : Jvm.MethodName)) ∈ BIG := tb_5 159 rfl rfl
set_option maxRecDepth 100000 in
theorem w_7ca1a192 : (Jvm.Cond.instanceMethod ({ cls := "VerseCommittee", name := "breach", desc := "(III)I" } : Jvm.MethodName)) ∈ BIG := tb_5 160 rfl rfl
set_option maxRecDepth 100000 in
theorem w_e5ca493a : (Jvm.Cond.selects "VerseCommittee" ({ cls := "VerseCommittee", name := "breach", desc := "(III)I" } : Jvm.MethodName) ({ cls := "VerseCommittee", name := "breach", desc := "(III)I" } : Jvm.MethodName)) ∈ BIG := tb_5 161 rfl rfl
set_option maxRecDepth 100000 in
theorem w_0b575149 : (Jvm.Cond.code ({ cls := "VerseCommittee", name := "breach", desc := "(III)I" } : Jvm.MethodName) prog_1_method_24_code (5 : Nat) (Option.some Jvm.ClassFile.FieldType.int)) ∈ BIG := tb_5 162 rfl rfl
set_option maxRecDepth 100000 in
theorem w_7c490bdf : (Jvm.Cond.methodLink "VerseCommittee" (302 : Nat) ({ cls := "VerseCommittee$Findings", name := "told", desc := "(I)I" } : Jvm.MethodName)) ∈ BIG := tb_5 163 rfl rfl
set_option maxRecDepth 100000 in
theorem w_82573774 : (Jvm.Cond.instanceMethod ({ cls := "VerseCommittee$Findings", name := "told", desc := "(I)I" } : Jvm.MethodName)) ∈ BIG := tb_5 164 rfl rfl
set_option maxRecDepth 100000 in
theorem w_cb566cde : (Jvm.Cond.selects "VerseCommittee$Findings" ({ cls := "VerseCommittee$Findings", name := "told", desc := "(I)I" } : Jvm.MethodName) ({ cls := "VerseCommittee$Findings", name := "told", desc := "(I)I" } : Jvm.MethodName)) ∈ BIG := tb_5 165 rfl rfl
set_option maxRecDepth 100000 in
theorem w_c0d490a3 : (Jvm.Cond.code ({ cls := "VerseCommittee$Findings", name := "told", desc := "(I)I" } : Jvm.MethodName) prog_3_method_3_code (2 : Nat) (Option.some Jvm.ClassFile.FieldType.int)) ∈ BIG := tb_5 166 rfl rfl
set_option maxRecDepth 100000 in
theorem w_47d56ff5 : (Jvm.Cond.methodLink "VerseCommitteeLaw" (114 : Nat) ({ cls := "VerseCommittee", name := "quarrel", desc := "(III)I" } : Jvm.MethodName)) ∈ BIG := tb_5 167 rfl rfl
set_option maxRecDepth 100000 in
theorem w_32313a4b : (Jvm.Cond.instanceMethod ({ cls := "VerseCommittee", name := "quarrel", desc := "(III)I" } : Jvm.MethodName)) ∈ BIG := tb_5 168 rfl rfl
set_option maxRecDepth 100000 in
theorem w_5af96c7d : (Jvm.Cond.selects "VerseCommittee" ({ cls := "VerseCommittee", name := "quarrel", desc := "(III)I" } : Jvm.MethodName) ({ cls := "VerseCommittee", name := "quarrel", desc := "(III)I" } : Jvm.MethodName)) ∈ BIG := tb_5 169 rfl rfl
set_option maxRecDepth 100000 in
theorem w_531da04b : (Jvm.Cond.code ({ cls := "VerseCommittee", name := "quarrel", desc := "(III)I" } : Jvm.MethodName) prog_1_method_25_code (4 : Nat) (Option.some Jvm.ClassFile.FieldType.int)) ∈ BIG := tb_5 170 rfl rfl
set_option maxRecDepth 100000 in
theorem w_22c06b4f : (Jvm.Cond.methodLink "VerseCommittee" (305 : Nat) ({ cls := "VerseCommittee$Findings", name := "seekQuarrel", desc := "(III)Z" } : Jvm.MethodName)) ∈ BIG := tb_5 171 rfl rfl
set_option maxRecDepth 100000 in
theorem w_977c7d75 : (Jvm.Cond.instanceMethod ({ cls := "VerseCommittee$Findings", name := "seekQuarrel", desc := "(III)Z" } : Jvm.MethodName)) ∈ BIG := tb_5 172 rfl rfl
set_option maxRecDepth 100000 in
theorem w_b9f29ad7 : (Jvm.Cond.selects "VerseCommittee$Findings" ({ cls := "VerseCommittee$Findings", name := "seekQuarrel", desc := "(III)Z" } : Jvm.MethodName) ({ cls := "VerseCommittee$Findings", name := "seekQuarrel", desc := "(III)Z" } : Jvm.MethodName)) ∈ BIG := tb_5 173 rfl rfl
set_option maxRecDepth 100000 in
theorem w_6f6c7130 : (Jvm.Cond.code ({ cls := "VerseCommittee$Findings", name := "seekQuarrel", desc := "(III)Z" } : Jvm.MethodName) prog_3_method_5_code (7 : Nat) (Option.some Jvm.ClassFile.FieldType.boolean)) ∈ BIG := tb_5 174 rfl rfl
set_option maxRecDepth 100000 in
theorem w_22bae474 : (Jvm.Cond.methodLink "VerseCommittee$Findings" (90 : Nat) ({ cls := "VerseCommittee$Reckoner", name := "firstCopy", desc := "()I" } : Jvm.MethodName)) ∈ BIG := tb_5 175 rfl rfl
set_option maxRecDepth 100000 in
theorem w_561c3fed : (Jvm.Cond.methodLink "VerseCommittee$Findings" (93 : Nat) ({ cls := "VerseCommittee$Verses", name := "rowOf", desc := "(II)[I" } : Jvm.MethodName)) ∈ BIG := tb_5 176 rfl rfl
set_option maxRecDepth 100000 in
theorem w_cde6d910 : (Jvm.Cond.methodLink "VerseCommittee$Findings" (99 : Nat) ({ cls := "VerseCommittee$Findings", name := "seekSecond", desc := "(III)Z" } : Jvm.MethodName)) ∈ BIG := tb_5 177 rfl rfl
set_option maxRecDepth 100000 in
theorem w_555791c9 : (Jvm.Cond.instanceMethod ({ cls := "VerseCommittee$Findings", name := "seekSecond", desc := "(III)Z" } : Jvm.MethodName)) ∈ BIG := tb_5 179 rfl rfl
set_option maxRecDepth 100000 in
theorem w_20e5875a : (Jvm.Cond.code ({ cls := "VerseCommittee$Findings", name := "seekSecond", desc := "(III)Z" } : Jvm.MethodName) prog_3_method_6_code (6 : Nat) (Option.some Jvm.ClassFile.FieldType.boolean)) ∈ BIG := tb_5 180 rfl rfl
set_option maxRecDepth 100000 in
theorem w_1b09bd8a : (Jvm.Cond.methodLink "VerseCommitteeLaw" (118 : Nat) ({ cls := "VerseCommittee", name := "unlike", desc := "(II)I" } : Jvm.MethodName)) ∈ BIG := tb_5 181 rfl rfl
set_option maxRecDepth 100000 in
theorem w_3b05809d : (Jvm.Cond.instanceMethod ({ cls := "VerseCommittee", name := "unlike", desc := "(II)I" } : Jvm.MethodName)) ∈ BIG := tb_5 182 rfl rfl
set_option maxRecDepth 100000 in
theorem w_f5fa100a : (Jvm.Cond.selects "VerseCommittee" ({ cls := "VerseCommittee", name := "unlike", desc := "(II)I" } : Jvm.MethodName) ({ cls := "VerseCommittee", name := "unlike", desc := "(II)I" } : Jvm.MethodName)) ∈ BIG := tb_5 183 rfl rfl
set_option maxRecDepth 100000 in
theorem w_1aad94ba : (Jvm.Cond.code ({ cls := "VerseCommittee", name := "unlike", desc := "(II)I" } : Jvm.MethodName) prog_1_method_26_code (3 : Nat) (Option.some Jvm.ClassFile.FieldType.int)) ∈ BIG := tb_5 184 rfl rfl
set_option maxRecDepth 100000 in
theorem w_45a9fa1b : (Jvm.Cond.methodLink "VerseCommittee" (308 : Nat) ({ cls := "VerseCommittee$Findings", name := "seekUnlike", desc := "(II)Z" } : Jvm.MethodName)) ∈ BIG := tb_5 185 rfl rfl
set_option maxRecDepth 100000 in
theorem w_0bdca262 : (Jvm.Cond.instanceMethod ({ cls := "VerseCommittee$Findings", name := "seekUnlike", desc := "(II)Z" } : Jvm.MethodName)) ∈ BIG := tb_5 186 rfl rfl
set_option maxRecDepth 100000 in
theorem w_17a3623b : (Jvm.Cond.selects "VerseCommittee$Findings" ({ cls := "VerseCommittee$Findings", name := "seekUnlike", desc := "(II)Z" } : Jvm.MethodName) ({ cls := "VerseCommittee$Findings", name := "seekUnlike", desc := "(II)Z" } : Jvm.MethodName)) ∈ BIG := tb_5 187 rfl rfl
set_option maxRecDepth 100000 in
theorem w_c1c3cca9 : (Jvm.Cond.code ({ cls := "VerseCommittee$Findings", name := "seekUnlike", desc := "(II)Z" } : Jvm.MethodName) prog_3_method_9_code (5 : Nat) (Option.some Jvm.ClassFile.FieldType.boolean)) ∈ BIG := tb_5 188 rfl rfl
set_option maxRecDepth 100000 in
theorem w_ea5cb103 : (Jvm.Cond.methodLink "VerseCommittee$Findings" (136 : Nat) ({ cls := "VerseCommittee$Verses", name := "size", desc := "()I" } : Jvm.MethodName)) ∈ BIG := tb_5 189 rfl rfl
set_option maxRecDepth 100000 in
theorem w_9c3aefa5 : (Jvm.Cond.instanceMethod ({ cls := "VerseCommittee$Verses", name := "size", desc := "()I" } : Jvm.MethodName)) ∈ BIG := tb_5 190 rfl rfl
set_option maxRecDepth 100000 in
theorem w_62163fe6 : (Jvm.Cond.selects "VerseCommittee$Verses" ({ cls := "VerseCommittee$Verses", name := "size", desc := "()I" } : Jvm.MethodName) ({ cls := "VerseCommittee$Verses", name := "size", desc := "()I" } : Jvm.MethodName)) ∈ BIG := tb_5 191 rfl rfl
set_option maxRecDepth 100000 in
theorem w_21d05fb2 : (Jvm.Cond.code ({ cls := "VerseCommittee$Verses", name := "size", desc := "()I" } : Jvm.MethodName) prog_11_method_2_code (1 : Nat) (Option.some Jvm.ClassFile.FieldType.int)) ∈ BIG := tb_5 192 rfl rfl
set_option maxRecDepth 100000 in
theorem w_b14377b9 : (Jvm.Cond.methodLink "VerseCommittee$Findings" (137 : Nat) ({ cls := "VerseCommittee$Shelf", name := "fixedAt", desc := "(I)LVerseCommittee$Rendering;" } : Jvm.MethodName)) ∈ BIG := tb_5 193 rfl rfl
set_option maxRecDepth 100000 in
theorem w_793c558f : (Jvm.Cond.methodLink "VerseCommittee$Findings" (143 : Nat) ({ cls := "VerseCommittee$Findings", name := "markAlike", desc := "(II)Z" } : Jvm.MethodName)) ∈ BIG := tb_5 194 rfl rfl
set_option maxRecDepth 100000 in
theorem w_17ae92bb : (Jvm.Cond.instanceMethod ({ cls := "VerseCommittee$Findings", name := "markAlike", desc := "(II)Z" } : Jvm.MethodName)) ∈ BIG := tb_5 196 rfl rfl
set_option maxRecDepth 100000 in
theorem w_58cde53c : (Jvm.Cond.code ({ cls := "VerseCommittee$Findings", name := "markAlike", desc := "(II)Z" } : Jvm.MethodName) prog_3_method_13_code (7 : Nat) (Option.some Jvm.ClassFile.FieldType.boolean)) ∈ BIG := tb_5 197 rfl rfl
set_option maxRecDepth 100000 in
theorem w_a4ac816c : (Jvm.Cond.methodLink "VerseCommittee$Findings" (146 : Nat) ({ cls := "VerseCommittee$Findings", name := "addPlaces", desc := "(I[I)V" } : Jvm.MethodName)) ∈ BIG := tb_5 198 rfl rfl
set_option maxRecDepth 100000 in
theorem w_65d1ac8e : (Jvm.Cond.instanceMethod ({ cls := "VerseCommittee$Findings", name := "addPlaces", desc := "(I[I)V" } : Jvm.MethodName)) ∈ BIG := tb_5 200 rfl rfl
set_option maxRecDepth 100000 in
theorem w_9dbd184a : (Jvm.Cond.code ({ cls := "VerseCommittee$Findings", name := "addPlaces", desc := "(I[I)V" } : Jvm.MethodName) prog_3_method_12_code (4 : Nat) (Option.none : Option Jvm.ClassFile.FieldType)) ∈ BIG := tb_5 201 rfl rfl
set_option maxRecDepth 100000 in
theorem w_ccba4804 : (Jvm.Cond.methodLink "VerseCommittee$Findings" (150 : Nat) ({ cls := "VerseCommittee$Findings", name := "isUnlike", desc := "(II)Z" } : Jvm.MethodName)) ∈ BIG := tb_5 202 rfl rfl
set_option maxRecDepth 100000 in
theorem w_1666037e : (Jvm.Cond.instanceMethod ({ cls := "VerseCommittee$Findings", name := "isUnlike", desc := "(II)Z" } : Jvm.MethodName)) ∈ BIG := tb_5 204 rfl rfl
set_option maxRecDepth 100000 in
theorem w_7dfdc7ff : (Jvm.Cond.code ({ cls := "VerseCommittee$Findings", name := "isUnlike", desc := "(II)Z" } : Jvm.MethodName) prog_3_method_10_code (7 : Nat) (Option.some Jvm.ClassFile.FieldType.boolean)) ∈ BIG := tb_5 205 rfl rfl
set_option maxRecDepth 100000 in
theorem w_e6f2fa11 : (Jvm.Cond.methodLink "VerseCommittee$Findings" (153 : Nat) ({ cls := "VerseCommittee$Findings", name := "shareClause", desc := "(II)Z" } : Jvm.MethodName)) ∈ BIG := tb_5 206 rfl rfl
set_option maxRecDepth 100000 in
theorem w_8ead1449 : (Jvm.Cond.instanceMethod ({ cls := "VerseCommittee$Findings", name := "shareClause", desc := "(II)Z" } : Jvm.MethodName)) ∈ BIG := tb_5 208 rfl rfl
set_option maxRecDepth 100000 in
theorem w_3ee8f721 : (Jvm.Cond.code ({ cls := "VerseCommittee$Findings", name := "shareClause", desc := "(II)Z" } : Jvm.MethodName) prog_3_method_11_code (4 : Nat) (Option.some Jvm.ClassFile.FieldType.boolean)) ∈ BIG := tb_5 209 rfl rfl
set_option maxRecDepth 100000 in
theorem w_1610473b : (Jvm.Cond.methodLink "VerseCommittee$Findings" (156 : Nat) ({ cls := "VerseCommittee$Rendering", name := "turnsLike", desc := "(ILVerseCommittee$Rendering;I)Z" } : Jvm.MethodName)) ∈ BIG := tb_5 210 rfl rfl
set_option maxRecDepth 100000 in
theorem w_9426e777 : (Jvm.Cond.instanceMethod ({ cls := "VerseCommittee$Rendering", name := "turnsLike", desc := "(ILVerseCommittee$Rendering;I)Z" } : Jvm.MethodName)) ∈ BIG := tb_5 211 rfl rfl
set_option maxRecDepth 100000 in
theorem w_500fc52b : (Jvm.Cond.selects "VerseCommittee$Rendering" ({ cls := "VerseCommittee$Rendering", name := "turnsLike", desc := "(ILVerseCommittee$Rendering;I)Z" } : Jvm.MethodName) ({ cls := "VerseCommittee$Rendering", name := "turnsLike", desc := "(ILVerseCommittee$Rendering;I)Z" } : Jvm.MethodName)) ∈ BIG := tb_5 212 rfl rfl
set_option maxRecDepth 100000 in
theorem w_de9a93ad : (Jvm.Cond.code ({ cls := "VerseCommittee$Rendering", name := "turnsLike", desc := "(ILVerseCommittee$Rendering;I)Z" } : Jvm.MethodName) prog_9_method_23_code (6 : Nat) (Option.some Jvm.ClassFile.FieldType.boolean)) ∈ BIG := tb_5 213 rfl rfl
set_option maxRecDepth 100000 in
theorem w_c7111fb7 : (Jvm.Cond.methodLink "VerseCommittee$Rendering" (76 : Nat) ({ cls := "VerseCommittee$Rendering", name := "nextSlot", desc := "(II)I" } : Jvm.MethodName)) ∈ BIG := tb_5 214 rfl rfl
set_option maxRecDepth 100000 in
theorem w_a9a5fdd4 : (Jvm.Cond.instanceMethod ({ cls := "VerseCommittee$Rendering", name := "nextSlot", desc := "(II)I" } : Jvm.MethodName)) ∈ BIG := tb_5 216 rfl rfl
set_option maxRecDepth 100000 in
theorem w_42ea06db : (Jvm.Cond.code ({ cls := "VerseCommittee$Rendering", name := "nextSlot", desc := "(II)I" } : Jvm.MethodName) prog_9_method_24_code (4 : Nat) (Option.some Jvm.ClassFile.FieldType.int)) ∈ BIG := tb_5 217 rfl rfl
set_option maxRecDepth 100000 in
theorem w_1c5e1d62 : (Jvm.Cond.methodLink "VerseCommittee$Rendering" (80 : Nat) ({ cls := "VerseCommittee$Rendering", name := "slots", desc := "()I" } : Jvm.MethodName)) ∈ BIG := tb_5 218 rfl rfl
set_option maxRecDepth 100000 in
theorem w_40d6d369 : (Jvm.Cond.instanceMethod ({ cls := "VerseCommittee$Rendering", name := "slots", desc := "()I" } : Jvm.MethodName)) ∈ BIG := tb_5 219 rfl rfl
set_option maxRecDepth 100000 in
theorem w_edaf53b0 : (Jvm.Cond.selects "VerseCommittee$Rendering" ({ cls := "VerseCommittee$Rendering", name := "slots", desc := "()I" } : Jvm.MethodName) ({ cls := "VerseCommittee$Rendering", name := "slots", desc := "()I" } : Jvm.MethodName)) ∈ BIG := tb_5 220 rfl rfl
set_option maxRecDepth 100000 in
theorem w_f40ddd45 : (Jvm.Cond.code ({ cls := "VerseCommittee$Rendering", name := "slots", desc := "()I" } : Jvm.MethodName) prog_9_method_7_code (1 : Nat) (Option.some Jvm.ClassFile.FieldType.int)) ∈ BIG := tb_5 221 rfl rfl
set_option maxRecDepth 100000 in
theorem w_15506a65 : (Jvm.Cond.methodLink "VerseCommittee$Rendering" (83 : Nat) ({ cls := "VerseCommittee$Rendering", name := "wordAt", desc := "(I)I" } : Jvm.MethodName)) ∈ BIG := tb_5 222 rfl rfl
set_option maxRecDepth 100000 in
theorem w_94115268 : (Jvm.Cond.instanceMethod ({ cls := "VerseCommittee$Rendering", name := "wordAt", desc := "(I)I" } : Jvm.MethodName)) ∈ BIG := tb_5 223 rfl rfl
set_option maxRecDepth 100000 in
theorem w_ba0185fc : (Jvm.Cond.selects "VerseCommittee$Rendering" ({ cls := "VerseCommittee$Rendering", name := "wordAt", desc := "(I)I" } : Jvm.MethodName) ({ cls := "VerseCommittee$Rendering", name := "wordAt", desc := "(I)I" } : Jvm.MethodName)) ∈ BIG := tb_5 224 rfl rfl
set_option maxRecDepth 100000 in
theorem w_eafe2bfa : (Jvm.Cond.code ({ cls := "VerseCommittee$Rendering", name := "wordAt", desc := "(I)I" } : Jvm.MethodName) prog_9_method_8_code (2 : Nat) (Option.some Jvm.ClassFile.FieldType.int)) ∈ BIG := tb_5 225 rfl rfl
set_option maxRecDepth 100000 in
theorem w_5987fd6f : (Jvm.Cond.methodLink "VerseCommitteeLaw" (122 : Nat) ({ cls := "VerseCommittee", name := "option", desc := "(II)Z" } : Jvm.MethodName)) ∈ BIG := tb_5 226 rfl rfl
set_option maxRecDepth 100000 in
theorem w_ec815cd7 : (Jvm.Cond.instanceMethod ({ cls := "VerseCommittee", name := "option", desc := "(II)Z" } : Jvm.MethodName)) ∈ BIG := tb_5 227 rfl rfl
set_option maxRecDepth 100000 in
theorem w_3590d7ab : (Jvm.Cond.selects "VerseCommittee" ({ cls := "VerseCommittee", name := "option", desc := "(II)Z" } : Jvm.MethodName) ({ cls := "VerseCommittee", name := "option", desc := "(II)Z" } : Jvm.MethodName)) ∈ BIG := tb_5 228 rfl rfl
set_option maxRecDepth 100000 in
theorem w_8d08b777 : (Jvm.Cond.code ({ cls := "VerseCommittee", name := "option", desc := "(II)Z" } : Jvm.MethodName) prog_1_method_27_code (3 : Nat) (Option.some Jvm.ClassFile.FieldType.boolean)) ∈ BIG := tb_5 229 rfl rfl
set_option maxRecDepth 100000 in
theorem w_7578250e : (Jvm.Cond.methodLink "VerseCommittee" (311 : Nat) ({ cls := "VerseCommittee", name := "isSign", desc := "(I)Z" } : Jvm.MethodName)) ∈ BIG := tb_5 230 rfl rfl
set_option maxRecDepth 100000 in
theorem w_03d611dc : (Jvm.Cond.static ({ cls := "VerseCommittee", name := "isSign", desc := "(I)Z" } : Jvm.MethodName)) ∈ BIG := tb_5 231 rfl rfl
set_option maxRecDepth 100000 in
theorem w_d3360d31 : (Jvm.Cond.code ({ cls := "VerseCommittee", name := "isSign", desc := "(I)Z" } : Jvm.MethodName) prog_1_method_47_code (1 : Nat) (Option.some Jvm.ClassFile.FieldType.boolean)) ∈ BIG := tb_5 232 rfl rfl
set_option maxRecDepth 100000 in
theorem w_5bada49b : (Jvm.Cond.methodLink "VerseCommittee" (314 : Nat) ({ cls := "VerseCommittee$Choices", name := "enter", desc := "(II)Z" } : Jvm.MethodName)) ∈ BIG := tb_5 233 rfl rfl
set_option maxRecDepth 100000 in
theorem w_0dbb0742 : (Jvm.Cond.instanceMethod ({ cls := "VerseCommittee$Choices", name := "enter", desc := "(II)Z" } : Jvm.MethodName)) ∈ BIG := tb_5 234 rfl rfl
set_option maxRecDepth 100000 in
theorem w_2b333808 : (Jvm.Cond.selects "VerseCommittee$Choices" ({ cls := "VerseCommittee$Choices", name := "enter", desc := "(II)Z" } : Jvm.MethodName) ({ cls := "VerseCommittee$Choices", name := "enter", desc := "(II)Z" } : Jvm.MethodName)) ∈ BIG := tb_5 235 rfl rfl
set_option maxRecDepth 100000 in
theorem w_ee8f76dc : (Jvm.Cond.code ({ cls := "VerseCommittee$Choices", name := "enter", desc := "(II)Z" } : Jvm.MethodName) prog_2_method_3_code (4 : Nat) (Option.some Jvm.ClassFile.FieldType.boolean)) ∈ BIG := tb_5 236 rfl rfl
set_option maxRecDepth 100000 in
theorem w_2bb31b09 : (Jvm.Cond.methodLink "VerseCommittee$Choices" (55 : Nat) ({ cls := "VerseCommittee$Choices", name := "placeOf", desc := "(I)I" } : Jvm.MethodName)) ∈ BIG := tb_5 237 rfl rfl
set_option maxRecDepth 100000 in
theorem w_5c5bd5d9 : (Jvm.Cond.instanceMethod ({ cls := "VerseCommittee$Choices", name := "placeOf", desc := "(I)I" } : Jvm.MethodName)) ∈ BIG := tb_5 239 rfl rfl
set_option maxRecDepth 100000 in
theorem w_c3e5768e : (Jvm.Cond.code ({ cls := "VerseCommittee$Choices", name := "placeOf", desc := "(I)I" } : Jvm.MethodName) prog_2_method_7_code (3 : Nat) (Option.some Jvm.ClassFile.FieldType.int)) ∈ BIG := tb_6 0 rfl rfl
set_option maxRecDepth 100000 in
theorem w_11786e5e : (Jvm.Cond.methodLink "VerseCommittee$Choices" (59 : Nat) ({ cls := "VerseCommittee$Choices", name := "isOption", desc := "(II)Z" } : Jvm.MethodName)) ∈ BIG := tb_6 1 rfl rfl
set_option maxRecDepth 100000 in
theorem w_75129ac1 : (Jvm.Cond.instanceMethod ({ cls := "VerseCommittee$Choices", name := "isOption", desc := "(II)Z" } : Jvm.MethodName)) ∈ BIG := tb_6 3 rfl rfl
set_option maxRecDepth 100000 in
theorem w_ced599dd : (Jvm.Cond.code ({ cls := "VerseCommittee$Choices", name := "isOption", desc := "(II)Z" } : Jvm.MethodName) prog_2_method_8_code (4 : Nat) (Option.some Jvm.ClassFile.FieldType.boolean)) ∈ BIG := tb_6 4 rfl rfl
set_option maxRecDepth 100000 in
theorem w_99008525 : (Jvm.Cond.methodLink "VerseCommitteeLaw" (127 : Nat) ({ cls := "VerseCommittee", name := "apart", desc := "(II)Z" } : Jvm.MethodName)) ∈ BIG := tb_6 5 rfl rfl
set_option maxRecDepth 100000 in
theorem w_10a64ef0 : (Jvm.Cond.instanceMethod ({ cls := "VerseCommittee", name := "apart", desc := "(II)Z" } : Jvm.MethodName)) ∈ BIG := tb_6 6 rfl rfl
set_option maxRecDepth 100000 in
theorem w_2dca50cb : (Jvm.Cond.selects "VerseCommittee" ({ cls := "VerseCommittee", name := "apart", desc := "(II)Z" } : Jvm.MethodName) ({ cls := "VerseCommittee", name := "apart", desc := "(II)Z" } : Jvm.MethodName)) ∈ BIG := tb_6 7 rfl rfl
set_option maxRecDepth 100000 in
theorem w_7ce0c5d9 : (Jvm.Cond.code ({ cls := "VerseCommittee", name := "apart", desc := "(II)Z" } : Jvm.MethodName) prog_1_method_28_code (3 : Nat) (Option.some Jvm.ClassFile.FieldType.boolean)) ∈ BIG := tb_6 8 rfl rfl
set_option maxRecDepth 100000 in
theorem w_77a5fca6 : (Jvm.Cond.methodLink "VerseCommittee" (316 : Nat) ({ cls := "VerseCommittee$Choices", name := "part", desc := "(II)Z" } : Jvm.MethodName)) ∈ BIG := tb_6 9 rfl rfl
set_option maxRecDepth 100000 in
theorem w_31843cb2 : (Jvm.Cond.instanceMethod ({ cls := "VerseCommittee$Choices", name := "part", desc := "(II)Z" } : Jvm.MethodName)) ∈ BIG := tb_6 10 rfl rfl
set_option maxRecDepth 100000 in
theorem w_129fba4a : (Jvm.Cond.selects "VerseCommittee$Choices" ({ cls := "VerseCommittee$Choices", name := "part", desc := "(II)Z" } : Jvm.MethodName) ({ cls := "VerseCommittee$Choices", name := "part", desc := "(II)Z" } : Jvm.MethodName)) ∈ BIG := tb_6 11 rfl rfl
set_option maxRecDepth 100000 in
theorem w_f3cbbd3a : (Jvm.Cond.code ({ cls := "VerseCommittee$Choices", name := "part", desc := "(II)Z" } : Jvm.MethodName) prog_2_method_4_code (3 : Nat) (Option.some Jvm.ClassFile.FieldType.boolean)) ∈ BIG := tb_6 12 rfl rfl
set_option maxRecDepth 100000 in
theorem w_dedb94fa : (Jvm.Cond.methodLink "VerseCommittee$Choices" (63 : Nat) ({ cls := "VerseCommittee$Choices", name := "arePart", desc := "(II)Z" } : Jvm.MethodName)) ∈ BIG := tb_6 13 rfl rfl
set_option maxRecDepth 100000 in
theorem w_d1ca87b3 : (Jvm.Cond.instanceMethod ({ cls := "VerseCommittee$Choices", name := "arePart", desc := "(II)Z" } : Jvm.MethodName)) ∈ BIG := tb_6 15 rfl rfl
set_option maxRecDepth 100000 in
theorem w_830b98fb : (Jvm.Cond.code ({ cls := "VerseCommittee$Choices", name := "arePart", desc := "(II)Z" } : Jvm.MethodName) prog_2_method_9_code (3 : Nat) (Option.some Jvm.ClassFile.FieldType.boolean)) ∈ BIG := tb_6 16 rfl rfl
set_option maxRecDepth 100000 in
theorem w_49837052 : (Jvm.Cond.methodLink "VerseCommitteeLaw" (131 : Nat) ({ cls := "VerseCommittee", name := "cost", desc := "(I)I" } : Jvm.MethodName)) ∈ BIG := tb_6 17 rfl rfl
set_option maxRecDepth 100000 in
theorem w_c5e30d9a : (Jvm.Cond.instanceMethod ({ cls := "VerseCommittee", name := "cost", desc := "(I)I" } : Jvm.MethodName)) ∈ BIG := tb_6 18 rfl rfl
set_option maxRecDepth 100000 in
theorem w_65f1b0ce : (Jvm.Cond.selects "VerseCommittee" ({ cls := "VerseCommittee", name := "cost", desc := "(I)I" } : Jvm.MethodName) ({ cls := "VerseCommittee", name := "cost", desc := "(I)I" } : Jvm.MethodName)) ∈ BIG := tb_6 19 rfl rfl
set_option maxRecDepth 100000 in
theorem w_4a52cd4b : (Jvm.Cond.code ({ cls := "VerseCommittee", name := "cost", desc := "(I)I" } : Jvm.MethodName) prog_1_method_29_code (2 : Nat) (Option.some Jvm.ClassFile.FieldType.int)) ∈ BIG := tb_6 20 rfl rfl
set_option maxRecDepth 100000 in
theorem w_0ade23b8 : (Jvm.Cond.methodLink "VerseCommittee" (319 : Nat) ({ cls := "VerseCommittee$Choices", name := "readRow", desc := "(I)Z" } : Jvm.MethodName)) ∈ BIG := tb_6 21 rfl rfl
set_option maxRecDepth 100000 in
theorem w_90cf2b06 : (Jvm.Cond.instanceMethod ({ cls := "VerseCommittee$Choices", name := "readRow", desc := "(I)Z" } : Jvm.MethodName)) ∈ BIG := tb_6 22 rfl rfl
set_option maxRecDepth 100000 in
theorem w_91efeed2 : (Jvm.Cond.selects "VerseCommittee$Choices" ({ cls := "VerseCommittee$Choices", name := "readRow", desc := "(I)Z" } : Jvm.MethodName) ({ cls := "VerseCommittee$Choices", name := "readRow", desc := "(I)Z" } : Jvm.MethodName)) ∈ BIG := tb_6 23 rfl rfl
set_option maxRecDepth 100000 in
theorem w_ecc841f0 : (Jvm.Cond.code ({ cls := "VerseCommittee$Choices", name := "readRow", desc := "(I)Z" } : Jvm.MethodName) prog_2_method_10_code (4 : Nat) (Option.some Jvm.ClassFile.FieldType.boolean)) ∈ BIG := tb_6 24 rfl rfl
set_option maxRecDepth 100000 in
theorem w_debc6932 : (Jvm.Cond.methodLink "VerseCommittee" (322 : Nat) ({ cls := "VerseCommittee$Choices", name := "reckon", desc := "(I)V" } : Jvm.MethodName)) ∈ BIG := tb_6 25 rfl rfl
set_option maxRecDepth 100000 in
theorem w_8c562137 : (Jvm.Cond.instanceMethod ({ cls := "VerseCommittee$Choices", name := "reckon", desc := "(I)V" } : Jvm.MethodName)) ∈ BIG := tb_6 26 rfl rfl
set_option maxRecDepth 100000 in
theorem w_c49d465f : (Jvm.Cond.selects "VerseCommittee$Choices" ({ cls := "VerseCommittee$Choices", name := "reckon", desc := "(I)V" } : Jvm.MethodName) ({ cls := "VerseCommittee$Choices", name := "reckon", desc := "(I)V" } : Jvm.MethodName)) ∈ BIG := tb_6 27 rfl rfl
set_option maxRecDepth 100000 in
theorem w_d58396bc : (Jvm.Cond.code ({ cls := "VerseCommittee$Choices", name := "reckon", desc := "(I)V" } : Jvm.MethodName) prog_2_method_16_code (4 : Nat) (Option.none : Option Jvm.ClassFile.FieldType)) ∈ BIG := tb_6 28 rfl rfl
set_option maxRecDepth 100000 in
theorem w_c0fcd3c9 : (Jvm.Cond.methodLink "VerseCommittee$Choices" (92 : Nat) ({ cls := "VerseCommittee$Verses", name := "size", desc := "()I" } : Jvm.MethodName)) ∈ BIG := tb_6 29 rfl rfl
set_option maxRecDepth 100000 in
theorem w_25f04b00 : (Jvm.Cond.methodLink "VerseCommittee$Choices" (96 : Nat) ({ cls := "VerseCommittee$Shelf", name := "fixedAt", desc := "(I)LVerseCommittee$Rendering;" } : Jvm.MethodName)) ∈ BIG := tb_6 30 rfl rfl
set_option maxRecDepth 100000 in
theorem w_9abb86b6 : (Jvm.Cond.methodLink "VerseCommittee$Choices" (102 : Nat) ({ cls := "VerseCommittee$Choices", name := "addPrices", desc := "(LVerseCommittee$Rendering;)V" } : Jvm.MethodName)) ∈ BIG := tb_6 31 rfl rfl
set_option maxRecDepth 100000 in
theorem w_1b4329d1 : (Jvm.Cond.instanceMethod ({ cls := "VerseCommittee$Choices", name := "addPrices", desc := "(LVerseCommittee$Rendering;)V" } : Jvm.MethodName)) ∈ BIG := tb_6 33 rfl rfl
set_option maxRecDepth 100000 in
theorem w_22f841cf : (Jvm.Cond.code ({ cls := "VerseCommittee$Choices", name := "addPrices", desc := "(LVerseCommittee$Rendering;)V" } : Jvm.MethodName) prog_2_method_17_code (7 : Nat) (Option.none : Option Jvm.ClassFile.FieldType)) ∈ BIG := tb_6 34 rfl rfl
set_option maxRecDepth 100000 in
theorem w_a5b9fa1c : (Jvm.Cond.methodLink "VerseCommittee$Choices" (106 : Nat) ({ cls := "VerseCommittee$Rendering", name := "tokenRow", desc := "()[I" } : Jvm.MethodName)) ∈ BIG := tb_6 35 rfl rfl
set_option maxRecDepth 100000 in
theorem w_30713f50 : (Jvm.Cond.methodLink "VerseCommittee$Choices" (116 : Nat) ({ cls := "VerseCommittee$Rendering", name := "slots", desc := "()I" } : Jvm.MethodName)) ∈ BIG := tb_6 36 rfl rfl
set_option maxRecDepth 100000 in
theorem w_957bec15 : (Jvm.Cond.methodLink "VerseCommittee$Choices" (119 : Nat) ({ cls := "VerseCommittee$Rendering", name := "turnAt", desc := "(I)I" } : Jvm.MethodName)) ∈ BIG := tb_6 37 rfl rfl
set_option maxRecDepth 100000 in
theorem w_4f11b4e9 : (Jvm.Cond.instanceMethod ({ cls := "VerseCommittee$Rendering", name := "turnAt", desc := "(I)I" } : Jvm.MethodName)) ∈ BIG := tb_6 38 rfl rfl
set_option maxRecDepth 100000 in
theorem w_07c68484 : (Jvm.Cond.selects "VerseCommittee$Rendering" ({ cls := "VerseCommittee$Rendering", name := "turnAt", desc := "(I)I" } : Jvm.MethodName) ({ cls := "VerseCommittee$Rendering", name := "turnAt", desc := "(I)I" } : Jvm.MethodName)) ∈ BIG := tb_6 39 rfl rfl
set_option maxRecDepth 100000 in
theorem w_d6d25d8f : (Jvm.Cond.code ({ cls := "VerseCommittee$Rendering", name := "turnAt", desc := "(I)I" } : Jvm.MethodName) prog_9_method_9_code (2 : Nat) (Option.some Jvm.ClassFile.FieldType.int)) ∈ BIG := tb_6 40 rfl rfl
set_option maxRecDepth 100000 in
theorem w_418585d9 : (Jvm.Cond.methodLink "VerseCommittee$Choices" (122 : Nat) ({ cls := "VerseCommittee$Rendering", name := "wordAt", desc := "(I)I" } : Jvm.MethodName)) ∈ BIG := tb_6 41 rfl rfl
set_option maxRecDepth 100000 in
theorem w_c3329f6d : (Jvm.Cond.methodLink "VerseCommittee$Choices" (112 : Nat) ({ cls := "VerseCommittee$Choices", name := "barByClauses", desc := "(I[II)V" } : Jvm.MethodName)) ∈ BIG := tb_6 42 rfl rfl
set_option maxRecDepth 100000 in
theorem w_81785c57 : (Jvm.Cond.instanceMethod ({ cls := "VerseCommittee$Choices", name := "barByClauses", desc := "(I[II)V" } : Jvm.MethodName)) ∈ BIG := tb_6 44 rfl rfl
set_option maxRecDepth 100000 in
theorem w_b2d8f8df : (Jvm.Cond.code ({ cls := "VerseCommittee$Choices", name := "barByClauses", desc := "(I[II)V" } : Jvm.MethodName) prog_2_method_18_code (8 : Nat) (Option.none : Option Jvm.ClassFile.FieldType)) ∈ BIG := tb_6 45 rfl rfl
set_option maxRecDepth 100000 in
theorem w_d94327ee : (Jvm.Cond.methodLink "VerseCommittee$Choices" (125 : Nat) ({ cls := "VerseCommittee$Reckoner", name := "aim", desc := "(II)V" } : Jvm.MethodName)) ∈ BIG := tb_6 46 rfl rfl
set_option maxRecDepth 100000 in
theorem w_892ad099 : (Jvm.Cond.methodLink "VerseCommittee$Choices" (130 : Nat) ({ cls := "VerseCommittee$Laws", name := "size", desc := "()I" } : Jvm.MethodName)) ∈ BIG := tb_6 47 rfl rfl
set_option maxRecDepth 100000 in
theorem w_0277f486 : (Jvm.Cond.methodLink "VerseCommittee$Choices" (133 : Nat) ({ cls := "VerseCommittee$Reckoner", name := "isInForce", desc := "(I)Z" } : Jvm.MethodName)) ∈ BIG := tb_6 48 rfl rfl
set_option maxRecDepth 100000 in
theorem w_3dea8d19 : (Jvm.Cond.methodLink "VerseCommittee$Choices" (136 : Nat) ({ cls := "VerseCommittee$Laws", name := "clausesOf", desc := "(I)I" } : Jvm.MethodName)) ∈ BIG := tb_6 49 rfl rfl
set_option maxRecDepth 100000 in
theorem w_e1d13aa8 : (Jvm.Cond.methodLink "VerseCommittee$Choices" (139 : Nat) ({ cls := "VerseCommittee$Laws", name := "clauseOf", desc := "(II)I" } : Jvm.MethodName)) ∈ BIG := tb_6 50 rfl rfl
set_option maxRecDepth 100000 in
theorem w_b77ca5ae : (Jvm.Cond.methodLink "VerseCommittee$Choices" (143 : Nat) ({ cls := "VerseCommittee$Laws", name := "isOf", desc := "(II)Z" } : Jvm.MethodName)) ∈ BIG := tb_6 51 rfl rfl
set_option maxRecDepth 100000 in
theorem w_96f9ca45 : (Jvm.Cond.methodLink "VerseCommittee$Choices" (146 : Nat) ({ cls := "VerseCommittee$Laws", name := "subject", desc := "(I)I" } : Jvm.MethodName)) ∈ BIG := tb_6 52 rfl rfl
set_option maxRecDepth 100000 in
theorem w_59734bc8 : (Jvm.Cond.methodLink "VerseCommittee$Choices" (149 : Nat) ({ cls := "VerseCommittee$Laws", name := "speaksOfAny", desc := "(I[I)Z" } : Jvm.MethodName)) ∈ BIG := tb_6 53 rfl rfl
set_option maxRecDepth 100000 in
theorem w_e6823909 : (Jvm.Cond.methodLink "VerseCommittee$Choices" (153 : Nat) ({ cls := "VerseCommittee$Reckoner", name := "verdict", desc := "(I)I" } : Jvm.MethodName)) ∈ BIG := tb_6 54 rfl rfl
set_option maxRecDepth 100000 in
theorem w_1faa361a : (Jvm.Cond.methodLink "VerseCommittee$Choices" (156 : Nat) ({ cls := "VerseCommittee$Laws", name := "value", desc := "(I)I" } : Jvm.MethodName)) ∈ BIG := tb_6 55 rfl rfl
set_option maxRecDepth 100000 in
theorem w_a20b19e2 : (Jvm.Cond.methodLink "VerseCommittee$Choices" (159 : Nat) ({ cls := "VerseCommittee$Choices", name := "barOthers", desc := "(II)V" } : Jvm.MethodName)) ∈ BIG := tb_6 56 rfl rfl
set_option maxRecDepth 100000 in
theorem w_27d8a9f3 : (Jvm.Cond.instanceMethod ({ cls := "VerseCommittee$Choices", name := "barOthers", desc := "(II)V" } : Jvm.MethodName)) ∈ BIG := tb_6 58 rfl rfl
set_option maxRecDepth 100000 in
theorem w_38437f0b : (Jvm.Cond.code ({ cls := "VerseCommittee$Choices", name := "barOthers", desc := "(II)V" } : Jvm.MethodName) prog_2_method_19_code (4 : Nat) (Option.none : Option Jvm.ClassFile.FieldType)) ∈ BIG := tb_6 59 rfl rfl
set_option maxRecDepth 100000 in
theorem w_aeac43e5 : (Jvm.Cond.methodLink "VerseCommittee" (325 : Nat) ({ cls := "VerseCommittee$Choices", name := "priceOfRow", desc := "()I" } : Jvm.MethodName)) ∈ BIG := tb_6 60 rfl rfl
set_option maxRecDepth 100000 in
theorem w_caae0b17 : (Jvm.Cond.instanceMethod ({ cls := "VerseCommittee$Choices", name := "priceOfRow", desc := "()I" } : Jvm.MethodName)) ∈ BIG := tb_6 61 rfl rfl
set_option maxRecDepth 100000 in
theorem w_ebb95d67 : (Jvm.Cond.selects "VerseCommittee$Choices" ({ cls := "VerseCommittee$Choices", name := "priceOfRow", desc := "()I" } : Jvm.MethodName) ({ cls := "VerseCommittee$Choices", name := "priceOfRow", desc := "()I" } : Jvm.MethodName)) ∈ BIG := tb_6 62 rfl rfl
set_option maxRecDepth 100000 in
theorem w_bac92bb2 : (Jvm.Cond.code ({ cls := "VerseCommittee$Choices", name := "priceOfRow", desc := "()I" } : Jvm.MethodName) prog_2_method_5_code (3 : Nat) (Option.some Jvm.ClassFile.FieldType.int)) ∈ BIG := tb_6 63 rfl rfl
set_option maxRecDepth 100000 in
theorem w_7c4e6646 : (Jvm.Cond.methodLink "VerseCommittee$Choices" (66 : Nat) ({ cls := "VerseCommittee$Choices", name := "mayStand", desc := "(I)Z" } : Jvm.MethodName)) ∈ BIG := tb_6 64 rfl rfl
set_option maxRecDepth 100000 in
theorem w_982f217e : (Jvm.Cond.instanceMethod ({ cls := "VerseCommittee$Choices", name := "mayStand", desc := "(I)Z" } : Jvm.MethodName)) ∈ BIG := tb_6 66 rfl rfl
set_option maxRecDepth 100000 in
theorem w_94a7f399 : (Jvm.Cond.code ({ cls := "VerseCommittee$Choices", name := "mayStand", desc := "(I)Z" } : Jvm.MethodName) prog_2_method_13_code (3 : Nat) (Option.some Jvm.ClassFile.FieldType.boolean)) ∈ BIG := tb_6 67 rfl rfl
set_option maxRecDepth 100000 in
theorem w_66bc80ef : (Jvm.Cond.methodLink "VerseCommittee$Choices" (81 : Nat) ({ cls := "VerseCommittee$Choices", name := "chosen", desc := "(I)I" } : Jvm.MethodName)) ∈ BIG := tb_6 68 rfl rfl
set_option maxRecDepth 100000 in
theorem w_c25bb477 : (Jvm.Cond.instanceMethod ({ cls := "VerseCommittee$Choices", name := "chosen", desc := "(I)I" } : Jvm.MethodName)) ∈ BIG := tb_6 70 rfl rfl
set_option maxRecDepth 100000 in
theorem w_182e3c91 : (Jvm.Cond.code ({ cls := "VerseCommittee$Choices", name := "chosen", desc := "(I)I" } : Jvm.MethodName) prog_2_method_12_code (2 : Nat) (Option.some Jvm.ClassFile.FieldType.int)) ∈ BIG := tb_6 71 rfl rfl
set_option maxRecDepth 100000 in
theorem w_b446383c : (Jvm.Cond.methodLink "VerseCommitteeLaw" (135 : Nat) ({ cls := "VerseCommittee", name := "one", desc := "()I" } : Jvm.MethodName)) ∈ BIG := tb_6 72 rfl rfl
set_option maxRecDepth 100000 in
theorem w_dc094fcd : (Jvm.Cond.instanceMethod ({ cls := "VerseCommittee", name := "one", desc := "()I" } : Jvm.MethodName)) ∈ BIG := tb_6 73 rfl rfl
set_option maxRecDepth 100000 in
theorem w_5bc0ac41 : (Jvm.Cond.selects "VerseCommittee" ({ cls := "VerseCommittee", name := "one", desc := "()I" } : Jvm.MethodName) ({ cls := "VerseCommittee", name := "one", desc := "()I" } : Jvm.MethodName)) ∈ BIG := tb_6 74 rfl rfl
set_option maxRecDepth 100000 in
theorem w_05e4f42c : (Jvm.Cond.code ({ cls := "VerseCommittee", name := "one", desc := "()I" } : Jvm.MethodName) prog_1_method_30_code (1 : Nat) (Option.some Jvm.ClassFile.FieldType.int)) ∈ BIG := tb_6 75 rfl rfl
set_option maxRecDepth 100000 in
theorem w_e431ba25 : (Jvm.Cond.methodLink "VerseCommittee" (328 : Nat) ({ cls := "VerseCommittee$Choices", name := "leastPriced", desc := "()I" } : Jvm.MethodName)) ∈ BIG := tb_6 76 rfl rfl
set_option maxRecDepth 100000 in
theorem w_d1d2c0af : (Jvm.Cond.instanceMethod ({ cls := "VerseCommittee$Choices", name := "leastPriced", desc := "()I" } : Jvm.MethodName)) ∈ BIG := tb_6 77 rfl rfl
set_option maxRecDepth 100000 in
theorem w_5b6be411 : (Jvm.Cond.selects "VerseCommittee$Choices" ({ cls := "VerseCommittee$Choices", name := "leastPriced", desc := "()I" } : Jvm.MethodName) ({ cls := "VerseCommittee$Choices", name := "leastPriced", desc := "()I" } : Jvm.MethodName)) ∈ BIG := tb_6 78 rfl rfl
set_option maxRecDepth 100000 in
theorem w_c09b0a64 : (Jvm.Cond.code ({ cls := "VerseCommittee$Choices", name := "leastPriced", desc := "()I" } : Jvm.MethodName) prog_2_method_6_code (1 : Nat) (Option.some Jvm.ClassFile.FieldType.int)) ∈ BIG := tb_6 79 rfl rfl
set_option maxRecDepth 100000 in
theorem w_77b52133 : (Jvm.Cond.constant "VerseCommittee$Choices" (70 : Nat) (2147483647 : Int32)) ∈ BIG := tb_6 80 rfl rfl
set_option maxRecDepth 100000 in
theorem w_7cf9ef57 : (Jvm.Cond.methodLink "VerseCommittee$Choices" (77 : Nat) ({ cls := "VerseCommittee$Choices", name := "choose", desc := "(II)V" } : Jvm.MethodName)) ∈ BIG := tb_6 81 rfl rfl
set_option maxRecDepth 100000 in
theorem w_7d34f5ba : (Jvm.Cond.instanceMethod ({ cls := "VerseCommittee$Choices", name := "choose", desc := "(II)V" } : Jvm.MethodName)) ∈ BIG := tb_6 83 rfl rfl
set_option maxRecDepth 100000 in
theorem w_531ee951 : (Jvm.Cond.code ({ cls := "VerseCommittee$Choices", name := "choose", desc := "(II)V" } : Jvm.MethodName) prog_2_method_14_code (4 : Nat) (Option.none : Option Jvm.ClassFile.FieldType)) ∈ BIG := tb_6 84 rfl rfl
set_option maxRecDepth 100000 in
theorem w_95e63f80 : (Jvm.Cond.methodLink "VerseCommittee$Choices" (84 : Nat) ({ cls := "VerseCommittee$Choices", name := "choiceOfRow", desc := "()I" } : Jvm.MethodName)) ∈ BIG := tb_6 85 rfl rfl
set_option maxRecDepth 100000 in
theorem w_7838a96d : (Jvm.Cond.instanceMethod ({ cls := "VerseCommittee$Choices", name := "choiceOfRow", desc := "()I" } : Jvm.MethodName)) ∈ BIG := tb_6 87 rfl rfl
set_option maxRecDepth 100000 in
theorem w_3d0f4c95 : (Jvm.Cond.code ({ cls := "VerseCommittee$Choices", name := "choiceOfRow", desc := "()I" } : Jvm.MethodName) prog_2_method_11_code (3 : Nat) (Option.some Jvm.ClassFile.FieldType.int)) ∈ BIG := tb_6 88 rfl rfl
set_option maxRecDepth 100000 in
theorem w_86e183d2 : (Jvm.Cond.methodLink "VerseCommittee$Choices" (88 : Nat) ({ cls := "VerseCommittee$Choices", name := "chooseOption", desc := "(III)V" } : Jvm.MethodName)) ∈ BIG := tb_6 89 rfl rfl
set_option maxRecDepth 100000 in
theorem w_86502b89 : (Jvm.Cond.instanceMethod ({ cls := "VerseCommittee$Choices", name := "chooseOption", desc := "(III)V" } : Jvm.MethodName)) ∈ BIG := tb_6 91 rfl rfl
set_option maxRecDepth 100000 in
theorem w_35754551 : (Jvm.Cond.code ({ cls := "VerseCommittee$Choices", name := "chooseOption", desc := "(III)V" } : Jvm.MethodName) prog_2_method_15_code (4 : Nat) (Option.none : Option Jvm.ClassFile.FieldType)) ∈ BIG := tb_6 92 rfl rfl
set_option maxRecDepth 100000 in
theorem w_f2163cd9 : (Jvm.Cond.methodLink "VerseCommitteeLaw" (140 : Nat) ({ cls := "VerseCommittee", name := "line", desc := "(I)I" } : Jvm.MethodName)) ∈ BIG := tb_6 93 rfl rfl
set_option maxRecDepth 100000 in
theorem w_9f58f46a : (Jvm.Cond.instanceMethod ({ cls := "VerseCommittee", name := "line", desc := "(I)I" } : Jvm.MethodName)) ∈ BIG := tb_6 94 rfl rfl
set_option maxRecDepth 100000 in
theorem w_b0e28e52 : (Jvm.Cond.selects "VerseCommittee" ({ cls := "VerseCommittee", name := "line", desc := "(I)I" } : Jvm.MethodName) ({ cls := "VerseCommittee", name := "line", desc := "(I)I" } : Jvm.MethodName)) ∈ BIG := tb_6 95 rfl rfl
set_option maxRecDepth 100000 in
theorem w_7afe1be6 : (Jvm.Cond.code ({ cls := "VerseCommittee", name := "line", desc := "(I)I" } : Jvm.MethodName) prog_1_method_31_code (5 : Nat) (Option.some Jvm.ClassFile.FieldType.int)) ∈ BIG := tb_6 96 rfl rfl
set_option maxRecDepth 100000 in
theorem w_35bdaf10 : (Jvm.Cond.methodLink "VerseCommittee" (331 : Nat) ({ cls := "VerseCommittee$Verses", name := "size", desc := "()I" } : Jvm.MethodName)) ∈ BIG := tb_6 97 rfl rfl
set_option maxRecDepth 100000 in
theorem w_76521a3f : (Jvm.Cond.methodLink "VerseCommittee" (334 : Nat) ({ cls := "VerseCommittee$Shelf", name := "fixedAt", desc := "(I)LVerseCommittee$Rendering;" } : Jvm.MethodName)) ∈ BIG := tb_6 98 rfl rfl
set_option maxRecDepth 100000 in
theorem w_578a983c : (Jvm.Cond.methodLink "VerseCommittee" (337 : Nat) ({ cls := "VerseCommittee$Verses", name := "measureOf", desc := "(I)I" } : Jvm.MethodName)) ∈ BIG := tb_6 99 rfl rfl
set_option maxRecDepth 100000 in
theorem w_4001f329 : (Jvm.Cond.methodLink "VerseCommittee" (340 : Nat) ({ cls := "VerseCommittee", name := "breaksMeasure", desc := "(LVerseCommittee$Rendering;I)Z" } : Jvm.MethodName)) ∈ BIG := tb_6 100 rfl rfl
set_option maxRecDepth 100000 in
theorem w_903b7eab : (Jvm.Cond.instanceMethod ({ cls := "VerseCommittee", name := "breaksMeasure", desc := "(LVerseCommittee$Rendering;I)Z" } : Jvm.MethodName)) ∈ BIG := tb_6 102 rfl rfl
set_option maxRecDepth 100000 in
theorem w_e495f9ca : (Jvm.Cond.code ({ cls := "VerseCommittee", name := "breaksMeasure", desc := "(LVerseCommittee$Rendering;I)Z" } : Jvm.MethodName) prog_1_method_53_code (5 : Nat) (Option.some Jvm.ClassFile.FieldType.boolean)) ∈ BIG := tb_6 103 rfl rfl
set_option maxRecDepth 100000 in
theorem w_1ffbafa7 : (Jvm.Cond.methodLink "VerseCommittee" (354 : Nat) ({ cls := "VerseCommittee$Rendering", name := "slots", desc := "()I" } : Jvm.MethodName)) ∈ BIG := tb_6 104 rfl rfl
set_option maxRecDepth 100000 in
theorem w_ffede7f4 : (Jvm.Cond.methodLink "VerseCommittee" (360 : Nat) ({ cls := "VerseCommittee$Rendering", name := "wordAt", desc := "(I)I" } : Jvm.MethodName)) ∈ BIG := tb_6 105 rfl rfl
set_option maxRecDepth 100000 in
theorem w_f2e04574 : (Jvm.Cond.methodLink "VerseCommitteeLaw" (144 : Nat) ({ cls := "VerseCommittee", name := "reads", desc := "(IIIZ)Z" } : Jvm.MethodName)) ∈ BIG := tb_6 106 rfl rfl
set_option maxRecDepth 100000 in
theorem w_57a9cb60 : (Jvm.Cond.instanceMethod ({ cls := "VerseCommittee", name := "reads", desc := "(IIIZ)Z" } : Jvm.MethodName)) ∈ BIG := tb_6 107 rfl rfl
set_option maxRecDepth 100000 in
theorem w_fef7e639 : (Jvm.Cond.selects "VerseCommittee" ({ cls := "VerseCommittee", name := "reads", desc := "(IIIZ)Z" } : Jvm.MethodName) ({ cls := "VerseCommittee", name := "reads", desc := "(IIIZ)Z" } : Jvm.MethodName)) ∈ BIG := tb_6 108 rfl rfl
set_option maxRecDepth 100000 in
theorem w_33fc984a : (Jvm.Cond.code ({ cls := "VerseCommittee", name := "reads", desc := "(IIIZ)Z" } : Jvm.MethodName) prog_1_method_32_code (5 : Nat) (Option.some Jvm.ClassFile.FieldType.boolean)) ∈ BIG := tb_6 109 rfl rfl
set_option maxRecDepth 100000 in
theorem w_d57abcf9 : (Jvm.Cond.methodLink "VerseCommittee" (344 : Nat) ({ cls := "VerseCommittee$Verses", name := "recordReader", desc := "(IIIZ)V" } : Jvm.MethodName)) ∈ BIG := tb_6 110 rfl rfl
set_option maxRecDepth 100000 in
theorem w_fd96d7e4 : (Jvm.Cond.instanceMethod ({ cls := "VerseCommittee$Verses", name := "recordReader", desc := "(IIIZ)V" } : Jvm.MethodName)) ∈ BIG := tb_6 111 rfl rfl
set_option maxRecDepth 100000 in
theorem w_ba783915 : (Jvm.Cond.selects "VerseCommittee$Verses" ({ cls := "VerseCommittee$Verses", name := "recordReader", desc := "(IIIZ)V" } : Jvm.MethodName) ({ cls := "VerseCommittee$Verses", name := "recordReader", desc := "(IIIZ)V" } : Jvm.MethodName)) ∈ BIG := tb_6 112 rfl rfl
set_option maxRecDepth 100000 in
theorem w_6d660715 : (Jvm.Cond.code ({ cls := "VerseCommittee$Verses", name := "recordReader", desc := "(IIIZ)V" } : Jvm.MethodName) prog_11_method_9_code (6 : Nat) (Option.none : Option Jvm.ClassFile.FieldType)) ∈ BIG := tb_6 113 rfl rfl
set_option maxRecDepth 100000 in
theorem w_ca5e05f3 : (Jvm.Cond.methodLink "VerseCommitteeLaw" (149 : Nat) ({ cls := "VerseCommittee", name := "missed", desc := "(I)I" } : Jvm.MethodName)) ∈ BIG := tb_6 114 rfl rfl
set_option maxRecDepth 100000 in
theorem w_53f3b318 : (Jvm.Cond.instanceMethod ({ cls := "VerseCommittee", name := "missed", desc := "(I)I" } : Jvm.MethodName)) ∈ BIG := tb_6 115 rfl rfl
set_option maxRecDepth 100000 in
theorem w_c22f78f4 : (Jvm.Cond.selects "VerseCommittee" ({ cls := "VerseCommittee", name := "missed", desc := "(I)I" } : Jvm.MethodName) ({ cls := "VerseCommittee", name := "missed", desc := "(I)I" } : Jvm.MethodName)) ∈ BIG := tb_6 116 rfl rfl
set_option maxRecDepth 100000 in
theorem w_4c7a4c29 : (Jvm.Cond.code ({ cls := "VerseCommittee", name := "missed", desc := "(I)I" } : Jvm.MethodName) prog_1_method_33_code (2 : Nat) (Option.some Jvm.ClassFile.FieldType.int)) ∈ BIG := tb_6 117 rfl rfl
set_option maxRecDepth 100000 in
theorem w_4326372e : (Jvm.Cond.methodLink "VerseCommittee" (348 : Nat) ({ cls := "VerseCommittee$Verses", name := "missedBits", desc := "(I)I" } : Jvm.MethodName)) ∈ BIG := tb_6 118 rfl rfl
set_option maxRecDepth 100000 in
theorem w_35681c25 : (Jvm.Cond.instanceMethod ({ cls := "VerseCommittee$Verses", name := "missedBits", desc := "(I)I" } : Jvm.MethodName)) ∈ BIG := tb_6 119 rfl rfl
set_option maxRecDepth 100000 in
theorem w_6537323b : (Jvm.Cond.selects "VerseCommittee$Verses" ({ cls := "VerseCommittee$Verses", name := "missedBits", desc := "(I)I" } : Jvm.MethodName) ({ cls := "VerseCommittee$Verses", name := "missedBits", desc := "(I)I" } : Jvm.MethodName)) ∈ BIG := tb_6 120 rfl rfl
set_option maxRecDepth 100000 in
theorem w_d82a9f7d : (Jvm.Cond.code ({ cls := "VerseCommittee$Verses", name := "missedBits", desc := "(I)I" } : Jvm.MethodName) prog_11_method_10_code (6 : Nat) (Option.some Jvm.ClassFile.FieldType.int)) ∈ BIG := tb_6 121 rfl rfl
set_option maxRecDepth 100000 in
theorem w_d11749e0 : (Jvm.Cond.methodLink "VerseCommittee$Verses" (43 : Nat) ({ cls := "java/lang/Integer", name := "bitCount", desc := "(I)I" } : Jvm.MethodName)) ∈ BIG := tb_6 122 rfl rfl
set_option maxRecDepth 100000 in
theorem w_f532a0f3 : (Jvm.Cond.methodLink "VerseCommitteeLaw" (153 : Nat) ({ cls := "VerseCommittee", name := "changes", desc := "(III)I" } : Jvm.MethodName)) ∈ BIG := tb_6 123 rfl rfl
set_option maxRecDepth 100000 in
theorem w_4c3b10aa : (Jvm.Cond.instanceMethod ({ cls := "VerseCommittee", name := "changes", desc := "(III)I" } : Jvm.MethodName)) ∈ BIG := tb_6 124 rfl rfl
set_option maxRecDepth 100000 in
theorem w_fe4060b2 : (Jvm.Cond.selects "VerseCommittee" ({ cls := "VerseCommittee", name := "changes", desc := "(III)I" } : Jvm.MethodName) ({ cls := "VerseCommittee", name := "changes", desc := "(III)I" } : Jvm.MethodName)) ∈ BIG := tb_6 125 rfl rfl
set_option maxRecDepth 100000 in
theorem w_690ba5ec : (Jvm.Cond.code ({ cls := "VerseCommittee", name := "changes", desc := "(III)I" } : Jvm.MethodName) prog_1_method_34_code (4 : Nat) (Option.some Jvm.ClassFile.FieldType.int)) ∈ BIG := tb_6 126 rfl rfl
set_option maxRecDepth 100000 in
theorem w_4cc6997e : (Jvm.Cond.methodLink "VerseCommittee" (351 : Nat) ({ cls := "VerseCommittee", name := "wordsFixedThen", desc := "(II)[I" } : Jvm.MethodName)) ∈ BIG := tb_6 127 rfl rfl
set_option maxRecDepth 100000 in
theorem w_99178f5d : (Jvm.Cond.instanceMethod ({ cls := "VerseCommittee", name := "wordsFixedThen", desc := "(II)[I" } : Jvm.MethodName)) ∈ BIG := tb_6 129 rfl rfl
set_option maxRecDepth 100000 in
theorem w_2abee056 : (Jvm.Cond.code ({ cls := "VerseCommittee", name := "wordsFixedThen", desc := "(II)[I" } : Jvm.MethodName) prog_1_method_54_code (4 : Nat) (Option.some (Jvm.ClassFile.FieldType.array Jvm.ClassFile.FieldType.int))) ∈ BIG := tb_6 130 rfl rfl
set_option maxRecDepth 100000 in
theorem w_3d583662 : (Jvm.Cond.fieldLink "VerseCommittee" (410 : Nat) "VerseCommittee" "NOTHING" "[I") ∈ BIG := tb_6 131 rfl rfl
set_option maxRecDepth 100000 in
theorem w_25326926 : (Jvm.Cond.methodLink "VerseCommittee" (413 : Nat) ({ cls := "VerseCommittee$Rendering", name := "wordRow", desc := "()[I" } : Jvm.MethodName)) ∈ BIG := tb_6 132 rfl rfl
set_option maxRecDepth 100000 in
theorem w_b3e7e27b : (Jvm.Cond.instanceMethod ({ cls := "VerseCommittee$Rendering", name := "wordRow", desc := "()[I" } : Jvm.MethodName)) ∈ BIG := tb_6 133 rfl rfl
set_option maxRecDepth 100000 in
theorem w_e2b1319a : (Jvm.Cond.selects "VerseCommittee$Rendering" ({ cls := "VerseCommittee$Rendering", name := "wordRow", desc := "()[I" } : Jvm.MethodName) ({ cls := "VerseCommittee$Rendering", name := "wordRow", desc := "()[I" } : Jvm.MethodName)) ∈ BIG := tb_6 134 rfl rfl
set_option maxRecDepth 100000 in
theorem w_29196199 : (Jvm.Cond.code ({ cls := "VerseCommittee$Rendering", name := "wordRow", desc := "()[I" } : Jvm.MethodName) prog_9_method_6_code (1 : Nat) (Option.some (Jvm.ClassFile.FieldType.array Jvm.ClassFile.FieldType.int))) ∈ BIG := tb_6 135 rfl rfl
set_option maxRecDepth 100000 in
theorem w_b0d8e50b : (Jvm.Cond.methodLink "VerseCommitteeLaw" (157 : Nat) ({ cls := "VerseCommittee", name := "printed", desc := "(III)I" } : Jvm.MethodName)) ∈ BIG := tb_6 136 rfl rfl
set_option maxRecDepth 100000 in
theorem w_cc00ae5f : (Jvm.Cond.instanceMethod ({ cls := "VerseCommittee", name := "printed", desc := "(III)I" } : Jvm.MethodName)) ∈ BIG := tb_6 137 rfl rfl
set_option maxRecDepth 100000 in
theorem w_cae058dd : (Jvm.Cond.selects "VerseCommittee" ({ cls := "VerseCommittee", name := "printed", desc := "(III)I" } : Jvm.MethodName) ({ cls := "VerseCommittee", name := "printed", desc := "(III)I" } : Jvm.MethodName)) ∈ BIG := tb_6 138 rfl rfl
set_option maxRecDepth 100000 in
theorem w_6e16c1a3 : (Jvm.Cond.code ({ cls := "VerseCommittee", name := "printed", desc := "(III)I" } : Jvm.MethodName) prog_1_method_35_code (9 : Nat) (Option.some Jvm.ClassFile.FieldType.int)) ∈ BIG := tb_6 139 rfl rfl
set_option maxRecDepth 100000 in
theorem w_71d00d9d : (Jvm.Cond.methodLink "VerseCommittee" (357 : Nat) ({ cls := "VerseCommittee$Rendering", name := "turnAt", desc := "(I)I" } : Jvm.MethodName)) ∈ BIG := tb_6 140 rfl rfl
set_option maxRecDepth 100000 in
theorem w_bbaa6864 : (Jvm.Cond.methodLink "VerseCommittee" (363 : Nat) ({ cls := "VerseCommittee$Words", name := "sizeIn", desc := "(II)I" } : Jvm.MethodName)) ∈ BIG := tb_6 141 rfl rfl
set_option maxRecDepth 100000 in
theorem w_3edceaa9 : (Jvm.Cond.instanceMethod ({ cls := "VerseCommittee$Words", name := "sizeIn", desc := "(II)I" } : Jvm.MethodName)) ∈ BIG := tb_6 142 rfl rfl
set_option maxRecDepth 100000 in
theorem w_dbaa4a1b : (Jvm.Cond.selects "VerseCommittee$Words" ({ cls := "VerseCommittee$Words", name := "sizeIn", desc := "(II)I" } : Jvm.MethodName) ({ cls := "VerseCommittee$Words", name := "sizeIn", desc := "(II)I" } : Jvm.MethodName)) ∈ BIG := tb_6 143 rfl rfl
set_option maxRecDepth 100000 in
theorem w_8ae5df6c : (Jvm.Cond.code ({ cls := "VerseCommittee$Words", name := "sizeIn", desc := "(II)I" } : Jvm.MethodName) prog_12_method_6_code (3 : Nat) (Option.some Jvm.ClassFile.FieldType.int)) ∈ BIG := tb_6 144 rfl rfl
set_option maxRecDepth 100000 in
theorem w_e018eca4 : (Jvm.Cond.methodLink "VerseCommittee$Words" (37 : Nat) ({ cls := "VerseCommittee$Words", name := "formIn", desc := "(II)I" } : Jvm.MethodName)) ∈ BIG := tb_6 145 rfl rfl
set_option maxRecDepth 100000 in
theorem w_2c6aadbe : (Jvm.Cond.instanceMethod ({ cls := "VerseCommittee$Words", name := "formIn", desc := "(II)I" } : Jvm.MethodName)) ∈ BIG := tb_6 147 rfl rfl
set_option maxRecDepth 100000 in
theorem w_af0ebfbb : (Jvm.Cond.code ({ cls := "VerseCommittee$Words", name := "formIn", desc := "(II)I" } : Jvm.MethodName) prog_12_method_10_code (4 : Nat) (Option.some Jvm.ClassFile.FieldType.int)) ∈ BIG := tb_6 148 rfl rfl
set_option maxRecDepth 100000 in
theorem w_2c555b2f : (Jvm.Cond.methodLink "VerseCommittee" (366 : Nat) ({ cls := "VerseCommittee", name := "signOfAdded", desc := "(III)I" } : Jvm.MethodName)) ∈ BIG := tb_6 149 rfl rfl
set_option maxRecDepth 100000 in
theorem w_563bc7d7 : (Jvm.Cond.instanceMethod ({ cls := "VerseCommittee", name := "signOfAdded", desc := "(III)I" } : Jvm.MethodName)) ∈ BIG := tb_6 151 rfl rfl
set_option maxRecDepth 100000 in
theorem w_35934799 : (Jvm.Cond.code ({ cls := "VerseCommittee", name := "signOfAdded", desc := "(III)I" } : Jvm.MethodName) prog_1_method_55_code (5 : Nat) (Option.some Jvm.ClassFile.FieldType.int)) ∈ BIG := tb_6 152 rfl rfl
set_option maxRecDepth 100000 in
theorem w_99bf5325 : (Jvm.Cond.methodLink "VerseCommittee" (370 : Nat) ({ cls := "VerseCommittee$Words", name := "letterIn", desc := "(III)I" } : Jvm.MethodName)) ∈ BIG := tb_6 153 rfl rfl
set_option maxRecDepth 100000 in
theorem w_1fe841be : (Jvm.Cond.instanceMethod ({ cls := "VerseCommittee$Words", name := "letterIn", desc := "(III)I" } : Jvm.MethodName)) ∈ BIG := tb_6 154 rfl rfl
set_option maxRecDepth 100000 in
theorem w_b2e72b5d : (Jvm.Cond.selects "VerseCommittee$Words" ({ cls := "VerseCommittee$Words", name := "letterIn", desc := "(III)I" } : Jvm.MethodName) ({ cls := "VerseCommittee$Words", name := "letterIn", desc := "(III)I" } : Jvm.MethodName)) ∈ BIG := tb_6 155 rfl rfl
set_option maxRecDepth 100000 in
theorem w_53868500 : (Jvm.Cond.code ({ cls := "VerseCommittee$Words", name := "letterIn", desc := "(III)I" } : Jvm.MethodName) prog_12_method_7_code (4 : Nat) (Option.some Jvm.ClassFile.FieldType.int)) ∈ BIG := tb_6 156 rfl rfl
set_option maxRecDepth 100000 in
theorem w_d5740218 : (Jvm.Cond.methodLink "VerseCommittee$Words" (41 : Nat) ({ cls := "VerseCommittee$Words", name := "sizeIn", desc := "(II)I" } : Jvm.MethodName)) ∈ BIG := tb_6 157 rfl rfl
set_option maxRecDepth 100000 in
theorem w_b054f62f : (Jvm.Cond.methodLink "VerseCommitteeLaw" (161 : Nat) ({ cls := "VerseCommittee", name := "plan", desc := "(I)I" } : Jvm.MethodName)) ∈ BIG := tb_6 158 rfl rfl
set_option maxRecDepth 100000 in
theorem w_b1c9f32d : (Jvm.Cond.instanceMethod ({ cls := "VerseCommittee", name := "plan", desc := "(I)I" } : Jvm.MethodName)) ∈ BIG := tb_6 159 rfl rfl
set_option maxRecDepth 100000 in
theorem w_0b9253af : (Jvm.Cond.selects "VerseCommittee" ({ cls := "VerseCommittee", name := "plan", desc := "(I)I" } : Jvm.MethodName) ({ cls := "VerseCommittee", name := "plan", desc := "(I)I" } : Jvm.MethodName)) ∈ BIG := tb_6 160 rfl rfl
set_option maxRecDepth 100000 in
theorem w_625faaf9 : (Jvm.Cond.code ({ cls := "VerseCommittee", name := "plan", desc := "(I)I" } : Jvm.MethodName) prog_1_method_36_code (2 : Nat) (Option.some Jvm.ClassFile.FieldType.int)) ∈ BIG := tb_6 161 rfl rfl
set_option maxRecDepth 100000 in
theorem w_bc38324e : (Jvm.Cond.methodLink "VerseCommittee" (373 : Nat) ({ cls := "VerseCommittee$Planner", name := "answer", desc := "(I)I" } : Jvm.MethodName)) ∈ BIG := tb_6 162 rfl rfl
set_option maxRecDepth 100000 in
theorem w_ec1201ac : (Jvm.Cond.instanceMethod ({ cls := "VerseCommittee$Planner", name := "answer", desc := "(I)I" } : Jvm.MethodName)) ∈ BIG := tb_6 163 rfl rfl
set_option maxRecDepth 100000 in
theorem w_17842695 : (Jvm.Cond.selects "VerseCommittee$Planner" ({ cls := "VerseCommittee$Planner", name := "answer", desc := "(I)I" } : Jvm.MethodName) ({ cls := "VerseCommittee$Planner", name := "answer", desc := "(I)I" } : Jvm.MethodName)) ∈ BIG := tb_6 164 rfl rfl
set_option maxRecDepth 100000 in
theorem w_6caab7c8 : (Jvm.Cond.code ({ cls := "VerseCommittee$Planner", name := "answer", desc := "(I)I" } : Jvm.MethodName) prog_7_method_2_code (3 : Nat) (Option.some Jvm.ClassFile.FieldType.int)) ∈ BIG := tb_6 165 rfl rfl
set_option maxRecDepth 100000 in
theorem w_438a19bd : (Jvm.Cond.methodLink "VerseCommittee$Planner" (41 : Nat) ({ cls := "VerseCommittee$Planner", name := "gatherBooks", desc := "()V" } : Jvm.MethodName)) ∈ BIG := tb_6 166 rfl rfl
set_option maxRecDepth 100000 in
theorem w_4fb6f58d : (Jvm.Cond.instanceMethod ({ cls := "VerseCommittee$Planner", name := "gatherBooks", desc := "()V" } : Jvm.MethodName)) ∈ BIG := tb_6 168 rfl rfl
set_option maxRecDepth 100000 in
theorem w_3fe85db5 : (Jvm.Cond.code ({ cls := "VerseCommittee$Planner", name := "gatherBooks", desc := "()V" } : Jvm.MethodName) prog_7_method_4_code (3 : Nat) (Option.none : Option Jvm.ClassFile.FieldType)) ∈ BIG := tb_6 169 rfl rfl
set_option maxRecDepth 100000 in
theorem w_91080f12 : (Jvm.Cond.methodLink "VerseCommittee$Planner" (77 : Nat) ({ cls := "VerseCommittee$Verses", name := "size", desc := "()I" } : Jvm.MethodName)) ∈ BIG := tb_6 170 rfl rfl
set_option maxRecDepth 100000 in
theorem w_21a5ebbb : (Jvm.Cond.methodLink "VerseCommittee$Planner" (81 : Nat) ({ cls := "VerseCommittee$Verses", name := "bookOf", desc := "(I)I" } : Jvm.MethodName)) ∈ BIG := tb_6 171 rfl rfl
set_option maxRecDepth 100000 in
theorem w_c99a7dd8 : (Jvm.Cond.methodLink "VerseCommittee$Planner" (84 : Nat) ({ cls := "VerseCommittee$Shelf", name := "fixedNumber", desc := "(I)I" } : Jvm.MethodName)) ∈ BIG := tb_6 172 rfl rfl
set_option maxRecDepth 100000 in
theorem w_64963d05 : (Jvm.Cond.constant "VerseCommittee$Planner" (44 : Nat) (2147483647 : Int32)) ∈ BIG := tb_6 173 rfl rfl
set_option maxRecDepth 100000 in
theorem w_25389bc1 : (Jvm.Cond.methodLink "VerseCommittee$Planner" (49 : Nat) ({ cls := "VerseCommittee$Planner", name := "daysOfCentre", desc := "()I" } : Jvm.MethodName)) ∈ BIG := tb_6 174 rfl rfl
set_option maxRecDepth 100000 in
theorem w_ce03d274 : (Jvm.Cond.instanceMethod ({ cls := "VerseCommittee$Planner", name := "daysOfCentre", desc := "()I" } : Jvm.MethodName)) ∈ BIG := tb_6 176 rfl rfl
set_option maxRecDepth 100000 in
theorem w_9897ad45 : (Jvm.Cond.code ({ cls := "VerseCommittee$Planner", name := "daysOfCentre", desc := "()I" } : Jvm.MethodName) prog_7_method_5_code (3 : Nat) (Option.some Jvm.ClassFile.FieldType.int)) ∈ BIG := tb_6 177 rfl rfl
set_option maxRecDepth 100000 in
theorem w_345d23f0 : (Jvm.Cond.methodLink "VerseCommittee$Planner" (89 : Nat) ({ cls := "VerseCommittee$People", name := "centreRate", desc := "()I" } : Jvm.MethodName)) ∈ BIG := tb_6 178 rfl rfl
set_option maxRecDepth 100000 in
theorem w_6988260b : (Jvm.Cond.instanceMethod ({ cls := "VerseCommittee$People", name := "centreRate", desc := "()I" } : Jvm.MethodName)) ∈ BIG := tb_6 179 rfl rfl
set_option maxRecDepth 100000 in
theorem w_ce10f657 : (Jvm.Cond.selects "VerseCommittee$People" ({ cls := "VerseCommittee$People", name := "centreRate", desc := "()I" } : Jvm.MethodName) ({ cls := "VerseCommittee$People", name := "centreRate", desc := "()I" } : Jvm.MethodName)) ∈ BIG := tb_6 180 rfl rfl
set_option maxRecDepth 100000 in
theorem w_e6f41679 : (Jvm.Cond.code ({ cls := "VerseCommittee$People", name := "centreRate", desc := "()I" } : Jvm.MethodName) prog_6_method_9_code (1 : Nat) (Option.some Jvm.ClassFile.FieldType.int)) ∈ BIG := tb_6 181 rfl rfl
set_option maxRecDepth 100000 in
theorem w_4e2deec9 : (Jvm.Cond.methodLink "VerseCommittee$Planner" (68 : Nat) ({ cls := "VerseCommittee$Planner", name := "through", desc := "(II)I" } : Jvm.MethodName)) ∈ BIG := tb_6 182 rfl rfl
set_option maxRecDepth 100000 in
theorem w_1894c4a9 : (Jvm.Cond.static ({ cls := "VerseCommittee$Planner", name := "through", desc := "(II)I" } : Jvm.MethodName)) ∈ BIG := tb_6 183 rfl rfl
set_option maxRecDepth 100000 in
theorem w_ca3613a8 : (Jvm.Cond.code ({ cls := "VerseCommittee$Planner", name := "through", desc := "(II)I" } : Jvm.MethodName) prog_7_method_6_code (2 : Nat) (Option.some Jvm.ClassFile.FieldType.int)) ∈ BIG := tb_6 184 rfl rfl
set_option maxRecDepth 100000 in
theorem w_ba397e53 : (Jvm.Cond.methodLink "VerseCommittee$Planner" (53 : Nat) ({ cls := "VerseCommittee$Planner", name := "give", desc := "(II)V" } : Jvm.MethodName)) ∈ BIG := tb_6 185 rfl rfl
set_option maxRecDepth 100000 in
theorem w_9427cfc6 : (Jvm.Cond.instanceMethod ({ cls := "VerseCommittee$Planner", name := "give", desc := "(II)V" } : Jvm.MethodName)) ∈ BIG := tb_6 187 rfl rfl
set_option maxRecDepth 100000 in
theorem w_5ae3b467 : (Jvm.Cond.code ({ cls := "VerseCommittee$Planner", name := "give", desc := "(II)V" } : Jvm.MethodName) prog_7_method_8_code (4 : Nat) (Option.none : Option Jvm.ClassFile.FieldType)) ∈ BIG := tb_6 188 rfl rfl
set_option maxRecDepth 100000 in
theorem w_ae39aa3e : (Jvm.Cond.methodLink "VerseCommittee$Planner" (95 : Nat) ({ cls := "VerseCommittee$People", name := "companies", desc := "()I" } : Jvm.MethodName)) ∈ BIG := tb_6 189 rfl rfl
set_option maxRecDepth 100000 in
theorem w_b7c67461 : (Jvm.Cond.instanceMethod ({ cls := "VerseCommittee$People", name := "companies", desc := "()I" } : Jvm.MethodName)) ∈ BIG := tb_6 190 rfl rfl
set_option maxRecDepth 100000 in
theorem w_0c5f3c16 : (Jvm.Cond.selects "VerseCommittee$People" ({ cls := "VerseCommittee$People", name := "companies", desc := "()I" } : Jvm.MethodName) ({ cls := "VerseCommittee$People", name := "companies", desc := "()I" } : Jvm.MethodName)) ∈ BIG := tb_6 191 rfl rfl
set_option maxRecDepth 100000 in
theorem w_a63c75bf : (Jvm.Cond.code ({ cls := "VerseCommittee$People", name := "companies", desc := "()I" } : Jvm.MethodName) prog_6_method_2_code (1 : Nat) (Option.some Jvm.ClassFile.FieldType.int)) ∈ BIG := tb_6 192 rfl rfl
set_option maxRecDepth 100000 in
theorem w_243f80ca : (Jvm.Cond.methodLink "VerseCommittee$Planner" (60 : Nat) ({ cls := "VerseCommittee$Planner", name := "mayHave", desc := "(II)Z" } : Jvm.MethodName)) ∈ BIG := tb_6 193 rfl rfl
set_option maxRecDepth 100000 in
theorem w_f1b22a1d : (Jvm.Cond.instanceMethod ({ cls := "VerseCommittee$Planner", name := "mayHave", desc := "(II)Z" } : Jvm.MethodName)) ∈ BIG := tb_6 195 rfl rfl
set_option maxRecDepth 100000 in
theorem w_60c94b15 : (Jvm.Cond.code ({ cls := "VerseCommittee$Planner", name := "mayHave", desc := "(II)Z" } : Jvm.MethodName) prog_7_method_7_code (3 : Nat) (Option.some Jvm.ClassFile.FieldType.boolean)) ∈ BIG := tb_6 196 rfl rfl
set_option maxRecDepth 100000 in
theorem w_c72a1c01 : (Jvm.Cond.methodLink "VerseCommittee$Planner" (92 : Nat) ({ cls := "VerseCommittee$People", name := "hasBook", desc := "(II)Z" } : Jvm.MethodName)) ∈ BIG := tb_6 197 rfl rfl
set_option maxRecDepth 100000 in
theorem w_c0463c94 : (Jvm.Cond.methodLink "VerseCommittee$Planner" (64 : Nat) ({ cls := "VerseCommittee$People", name := "rateOf", desc := "(I)I" } : Jvm.MethodName)) ∈ BIG := tb_6 198 rfl rfl
set_option maxRecDepth 100000 in
theorem w_ab2558a4 : (Jvm.Cond.instanceMethod ({ cls := "VerseCommittee$People", name := "rateOf", desc := "(I)I" } : Jvm.MethodName)) ∈ BIG := tb_6 199 rfl rfl
set_option maxRecDepth 100000 in
theorem w_0620fa78 : (Jvm.Cond.selects "VerseCommittee$People" ({ cls := "VerseCommittee$People", name := "rateOf", desc := "(I)I" } : Jvm.MethodName) ({ cls := "VerseCommittee$People", name := "rateOf", desc := "(I)I" } : Jvm.MethodName)) ∈ BIG := tb_6 200 rfl rfl
set_option maxRecDepth 100000 in
theorem w_67afcbd5 : (Jvm.Cond.code ({ cls := "VerseCommittee$People", name := "rateOf", desc := "(I)I" } : Jvm.MethodName) prog_6_method_13_code (2 : Nat) (Option.some Jvm.ClassFile.FieldType.int)) ∈ BIG := tb_6 201 rfl rfl
set_option maxRecDepth 100000 in
theorem w_6ad27377 : (Jvm.Cond.methodLink "VerseCommittee$Planner" (98 : Nat) ({ cls := "VerseCommittee$Planner", name := "giveTo", desc := "(III)V" } : Jvm.MethodName)) ∈ BIG := tb_6 202 rfl rfl
set_option maxRecDepth 100000 in
theorem w_de03082f : (Jvm.Cond.instanceMethod ({ cls := "VerseCommittee$Planner", name := "giveTo", desc := "(III)V" } : Jvm.MethodName)) ∈ BIG := tb_6 204 rfl rfl
set_option maxRecDepth 100000 in
theorem w_f8a8e66d : (Jvm.Cond.code ({ cls := "VerseCommittee$Planner", name := "giveTo", desc := "(III)V" } : Jvm.MethodName) prog_7_method_9_code (4 : Nat) (Option.none : Option Jvm.ClassFile.FieldType)) ∈ BIG := tb_6 205 rfl rfl
set_option maxRecDepth 100000 in
theorem w_dc17a9d7 : (Jvm.Cond.methodLink "VerseCommittee$Planner" (72 : Nat) ({ cls := "java/lang/Math", name := "max", desc := "(II)I" } : Jvm.MethodName)) ∈ BIG := tb_6 206 rfl rfl
set_option maxRecDepth 100000 in
theorem w_037c0529 : (Jvm.Cond.methodLink "VerseCommitteeLaw" (165 : Nat) ({ cls := "VerseCommittee", name := "judge", desc := "(I)I" } : Jvm.MethodName)) ∈ BIG := tb_6 207 rfl rfl
set_option maxRecDepth 100000 in
theorem w_4bfa4fd9 : (Jvm.Cond.instanceMethod ({ cls := "VerseCommittee", name := "judge", desc := "(I)I" } : Jvm.MethodName)) ∈ BIG := tb_6 208 rfl rfl
set_option maxRecDepth 100000 in
theorem w_db797f16 : (Jvm.Cond.selects "VerseCommittee" ({ cls := "VerseCommittee", name := "judge", desc := "(I)I" } : Jvm.MethodName) ({ cls := "VerseCommittee", name := "judge", desc := "(I)I" } : Jvm.MethodName)) ∈ BIG := tb_6 209 rfl rfl
set_option maxRecDepth 100000 in
theorem w_9d062a5a : (Jvm.Cond.code ({ cls := "VerseCommittee", name := "judge", desc := "(I)I" } : Jvm.MethodName) prog_1_method_37_code (2 : Nat) (Option.some Jvm.ClassFile.FieldType.int)) ∈ BIG := tb_6 210 rfl rfl
set_option maxRecDepth 100000 in
theorem w_6d28cdbf : (Jvm.Cond.methodLink "VerseCommittee" (376 : Nat) ({ cls := "VerseCommittee$Planner", name := "daysOf", desc := "(I)I" } : Jvm.MethodName)) ∈ BIG := tb_6 211 rfl rfl
set_option maxRecDepth 100000 in
theorem w_4354c3a8 : (Jvm.Cond.instanceMethod ({ cls := "VerseCommittee$Planner", name := "daysOf", desc := "(I)I" } : Jvm.MethodName)) ∈ BIG := tb_6 212 rfl rfl
set_option maxRecDepth 100000 in
theorem w_122a6069 : (Jvm.Cond.selects "VerseCommittee$Planner" ({ cls := "VerseCommittee$Planner", name := "daysOf", desc := "(I)I" } : Jvm.MethodName) ({ cls := "VerseCommittee$Planner", name := "daysOf", desc := "(I)I" } : Jvm.MethodName)) ∈ BIG := tb_6 213 rfl rfl
set_option maxRecDepth 100000 in
theorem w_c2982c61 : (Jvm.Cond.code ({ cls := "VerseCommittee$Planner", name := "daysOf", desc := "(I)I" } : Jvm.MethodName) prog_7_method_3_code (6 : Nat) (Option.some Jvm.ClassFile.FieldType.int)) ∈ BIG := tb_6 214 rfl rfl
set_option maxRecDepth 100000 in
theorem w_12832203 : (Jvm.Cond.methodLink "VerseCommitteeLaw" (169 : Nat) ({ cls := "VerseCommittee", name := "check", desc := "(I)I" } : Jvm.MethodName)) ∈ BIG := tb_6 215 rfl rfl
set_option maxRecDepth 100000 in
theorem w_7ab6e7ff : (Jvm.Cond.instanceMethod ({ cls := "VerseCommittee", name := "check", desc := "(I)I" } : Jvm.MethodName)) ∈ BIG := tb_6 216 rfl rfl
set_option maxRecDepth 100000 in
theorem w_ac78f6d9 : (Jvm.Cond.selects "VerseCommittee" ({ cls := "VerseCommittee", name := "check", desc := "(I)I" } : Jvm.MethodName) ({ cls := "VerseCommittee", name := "check", desc := "(I)I" } : Jvm.MethodName)) ∈ BIG := tb_6 217 rfl rfl
set_option maxRecDepth 100000 in
theorem w_832ba52a : (Jvm.Cond.code ({ cls := "VerseCommittee", name := "check", desc := "(I)I" } : Jvm.MethodName) prog_1_method_38_code (2 : Nat) (Option.some Jvm.ClassFile.FieldType.int)) ∈ BIG := tb_6 218 rfl rfl
set_option maxRecDepth 100000 in
theorem w_154ce549 : (Jvm.Cond.methodLink "VerseCommittee" (379 : Nat) ({ cls := "VerseCommittee", name := "firstWrongByte", desc := "(I)I" } : Jvm.MethodName)) ∈ BIG := tb_6 219 rfl rfl
set_option maxRecDepth 100000 in
theorem w_a043c6eb : (Jvm.Cond.instanceMethod ({ cls := "VerseCommittee", name := "firstWrongByte", desc := "(I)I" } : Jvm.MethodName)) ∈ BIG := tb_6 221 rfl rfl
set_option maxRecDepth 100000 in
theorem w_c4613e50 : (Jvm.Cond.code ({ cls := "VerseCommittee", name := "firstWrongByte", desc := "(I)I" } : Jvm.MethodName) prog_1_method_56_code (5 : Nat) (Option.some Jvm.ClassFile.FieldType.int)) ∈ BIG := tb_6 222 rfl rfl
set_option maxRecDepth 100000 in
theorem w_9cfcec69 : (Jvm.Cond.methodLink "VerseCommitteeLaw" (173 : Nat) ({ cls := "VerseCommittee", name := "look", desc := "(II)I" } : Jvm.MethodName)) ∈ BIG := tb_6 223 rfl rfl
set_option maxRecDepth 100000 in
theorem w_a9d947a6 : (Jvm.Cond.instanceMethod ({ cls := "VerseCommittee", name := "look", desc := "(II)I" } : Jvm.MethodName)) ∈ BIG := tb_6 224 rfl rfl
set_option maxRecDepth 100000 in
theorem w_9c27af3c : (Jvm.Cond.selects "VerseCommittee" ({ cls := "VerseCommittee", name := "look", desc := "(II)I" } : Jvm.MethodName) ({ cls := "VerseCommittee", name := "look", desc := "(II)I" } : Jvm.MethodName)) ∈ BIG := tb_6 225 rfl rfl
set_option maxRecDepth 100000 in
theorem w_beb3d967 : (Jvm.Cond.code ({ cls := "VerseCommittee", name := "look", desc := "(II)I" } : Jvm.MethodName) prog_1_method_39_code (4 : Nat) (Option.some Jvm.ClassFile.FieldType.int)) ∈ BIG := tb_6 226 rfl rfl
set_option maxRecDepth 100000 in
theorem w_beabceb2 : (Jvm.Cond.methodLink "VerseCommittee" (382 : Nat) ({ cls := "VerseCommittee$Rendering", name := "tell", desc := "(I)I" } : Jvm.MethodName)) ∈ BIG := tb_6 227 rfl rfl
set_option maxRecDepth 100000 in
theorem w_0f027732 : (Jvm.Cond.instanceMethod ({ cls := "VerseCommittee$Rendering", name := "tell", desc := "(I)I" } : Jvm.MethodName)) ∈ BIG := tb_6 228 rfl rfl
set_option maxRecDepth 100000 in
theorem w_e644f2ca : (Jvm.Cond.selects "VerseCommittee$Rendering" ({ cls := "VerseCommittee$Rendering", name := "tell", desc := "(I)I" } : Jvm.MethodName) ({ cls := "VerseCommittee$Rendering", name := "tell", desc := "(I)I" } : Jvm.MethodName)) ∈ BIG := tb_6 229 rfl rfl
set_option maxRecDepth 100000 in
theorem w_6c2ea05a : (Jvm.Cond.code ({ cls := "VerseCommittee$Rendering", name := "tell", desc := "(I)I" } : Jvm.MethodName) prog_9_method_26_code (2 : Nat) (Option.some Jvm.ClassFile.FieldType.int)) ∈ BIG := tb_6 230 rfl rfl
