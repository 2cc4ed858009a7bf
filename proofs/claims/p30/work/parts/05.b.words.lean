/-! words of the tables by their places -/
set_option maxRecDepth 100000 in
theorem w_dc76e110 : (Jvm.Cond.code ({ cls := "VerseCommittee$Words", name := "vowelRows", desc := "(I)I" } : Jvm.MethodName) prog_12_method_8_code (7 : Nat) (Option.some Jvm.ClassFile.FieldType.int)) ∈ BIG := tb_3 47 rfl rfl
set_option maxRecDepth 100000 in
theorem w_39fd4f49 : (Jvm.Cond.methodLink "VerseCommittee$Words" (44 : Nat) ({ cls := "VerseCommittee$Words", name := "isVowel", desc := "(I)Z" } : Jvm.MethodName)) ∈ BIG := tb_3 48 rfl rfl
set_option maxRecDepth 100000 in
theorem w_aafdd295 : (Jvm.Cond.static ({ cls := "VerseCommittee$Words", name := "isVowel", desc := "(I)Z" } : Jvm.MethodName)) ∈ BIG := tb_3 49 rfl rfl
set_option maxRecDepth 100000 in
theorem w_2182bdbf : (Jvm.Cond.code ({ cls := "VerseCommittee$Words", name := "isVowel", desc := "(I)Z" } : Jvm.MethodName) prog_12_method_9_code (1 : Nat) (Option.some Jvm.ClassFile.FieldType.boolean)) ∈ BIG := tb_3 50 rfl rfl
set_option maxRecDepth 100000 in
theorem w_e9cb002c : (Jvm.Cond.methodLink "VerseCommittee$Words" (47 : Nat) ({ cls := "java/lang/Math", name := "max", desc := "(II)I" } : Jvm.MethodName)) ∈ BIG := tb_3 51 rfl rfl
set_option maxRecDepth 100000 in
theorem w_39603b9f : (Jvm.Cond.static ({ cls := "java/lang/Math", name := "max", desc := "(II)I" } : Jvm.MethodName)) ∈ BIG := tb_3 52 rfl rfl
set_option maxRecDepth 100000 in
theorem w_cdf4ffaa : (Jvm.Cond.methodLink "VerseCommitteeLaw" (46 : Nat) ({ cls := "VerseCommittee", name := "company", desc := "(II)I" } : Jvm.MethodName)) ∈ BIG := tb_3 54 rfl rfl
set_option maxRecDepth 100000 in
theorem w_4ffbb267 : (Jvm.Cond.instanceMethod ({ cls := "VerseCommittee", name := "company", desc := "(II)I" } : Jvm.MethodName)) ∈ BIG := tb_3 55 rfl rfl
set_option maxRecDepth 100000 in
theorem w_e5218748 : (Jvm.Cond.selects "VerseCommittee" ({ cls := "VerseCommittee", name := "company", desc := "(II)I" } : Jvm.MethodName) ({ cls := "VerseCommittee", name := "company", desc := "(II)I" } : Jvm.MethodName)) ∈ BIG := tb_3 56 rfl rfl
set_option maxRecDepth 100000 in
theorem w_330518b2 : (Jvm.Cond.code ({ cls := "VerseCommittee", name := "company", desc := "(II)I" } : Jvm.MethodName) prog_1_method_9_code (3 : Nat) (Option.some Jvm.ClassFile.FieldType.int)) ∈ BIG := tb_3 57 rfl rfl
set_option maxRecDepth 100000 in
theorem w_cf4ad643 : (Jvm.Cond.methodLink "VerseCommittee" (147 : Nat) ({ cls := "VerseCommittee", name := "isRate", desc := "(I)Z" } : Jvm.MethodName)) ∈ BIG := tb_3 58 rfl rfl
set_option maxRecDepth 100000 in
theorem w_d85ba7e5 : (Jvm.Cond.static ({ cls := "VerseCommittee", name := "isRate", desc := "(I)Z" } : Jvm.MethodName)) ∈ BIG := tb_3 59 rfl rfl
set_option maxRecDepth 100000 in
theorem w_1bb036bd : (Jvm.Cond.code ({ cls := "VerseCommittee", name := "isRate", desc := "(I)Z" } : Jvm.MethodName) prog_1_method_46_code (1 : Nat) (Option.some Jvm.ClassFile.FieldType.boolean)) ∈ BIG := tb_3 60 rfl rfl
set_option maxRecDepth 100000 in
theorem w_d7470b8c : (Jvm.Cond.methodLink "VerseCommittee" (150 : Nat) ({ cls := "VerseCommittee$People", name := "enterCompany", desc := "(II)I" } : Jvm.MethodName)) ∈ BIG := tb_3 61 rfl rfl
set_option maxRecDepth 100000 in
theorem w_0e898e92 : (Jvm.Cond.instanceMethod ({ cls := "VerseCommittee$People", name := "enterCompany", desc := "(II)I" } : Jvm.MethodName)) ∈ BIG := tb_3 62 rfl rfl
set_option maxRecDepth 100000 in
theorem w_8a9eeb09 : (Jvm.Cond.selects "VerseCommittee$People" ({ cls := "VerseCommittee$People", name := "enterCompany", desc := "(II)I" } : Jvm.MethodName) ({ cls := "VerseCommittee$People", name := "enterCompany", desc := "(II)I" } : Jvm.MethodName)) ∈ BIG := tb_3 63 rfl rfl
set_option maxRecDepth 100000 in
theorem w_bbc5a53a : (Jvm.Cond.code ({ cls := "VerseCommittee$People", name := "enterCompany", desc := "(II)I" } : Jvm.MethodName) prog_6_method_6_code (3 : Nat) (Option.some Jvm.ClassFile.FieldType.int)) ∈ BIG := tb_3 64 rfl rfl
set_option maxRecDepth 100000 in
theorem w_4fb6f3c0 : (Jvm.Cond.methodLink "VerseCommitteeLaw" (50 : Nat) ({ cls := "VerseCommittee", name := "centre", desc := "(I)Z" } : Jvm.MethodName)) ∈ BIG := tb_3 65 rfl rfl
set_option maxRecDepth 100000 in
theorem w_4e6b044f : (Jvm.Cond.instanceMethod ({ cls := "VerseCommittee", name := "centre", desc := "(I)Z" } : Jvm.MethodName)) ∈ BIG := tb_3 66 rfl rfl
set_option maxRecDepth 100000 in
theorem w_85c28d62 : (Jvm.Cond.selects "VerseCommittee" ({ cls := "VerseCommittee", name := "centre", desc := "(I)Z" } : Jvm.MethodName) ({ cls := "VerseCommittee", name := "centre", desc := "(I)Z" } : Jvm.MethodName)) ∈ BIG := tb_3 67 rfl rfl
set_option maxRecDepth 100000 in
theorem w_6325bd97 : (Jvm.Cond.code ({ cls := "VerseCommittee", name := "centre", desc := "(I)Z" } : Jvm.MethodName) prog_1_method_10_code (2 : Nat) (Option.some Jvm.ClassFile.FieldType.boolean)) ∈ BIG := tb_3 68 rfl rfl
set_option maxRecDepth 100000 in
theorem w_e71b83b5 : (Jvm.Cond.methodLink "VerseCommittee" (153 : Nat) ({ cls := "VerseCommittee$People", name := "setCentreRate", desc := "(I)V" } : Jvm.MethodName)) ∈ BIG := tb_3 69 rfl rfl
set_option maxRecDepth 100000 in
theorem w_ee89cf1d : (Jvm.Cond.instanceMethod ({ cls := "VerseCommittee$People", name := "setCentreRate", desc := "(I)V" } : Jvm.MethodName)) ∈ BIG := tb_3 70 rfl rfl
set_option maxRecDepth 100000 in
theorem w_ae3fd15c : (Jvm.Cond.selects "VerseCommittee$People" ({ cls := "VerseCommittee$People", name := "setCentreRate", desc := "(I)V" } : Jvm.MethodName) ({ cls := "VerseCommittee$People", name := "setCentreRate", desc := "(I)V" } : Jvm.MethodName)) ∈ BIG := tb_3 71 rfl rfl
set_option maxRecDepth 100000 in
theorem w_8f47e070 : (Jvm.Cond.code ({ cls := "VerseCommittee$People", name := "setCentreRate", desc := "(I)V" } : Jvm.MethodName) prog_6_method_8_code (2 : Nat) (Option.none : Option Jvm.ClassFile.FieldType)) ∈ BIG := tb_3 72 rfl rfl
set_option maxRecDepth 100000 in
theorem w_1883b9e3 : (Jvm.Cond.methodLink "VerseCommitteeLaw" (54 : Nat) ({ cls := "VerseCommittee", name := "scholar", desc := "(IZ)I" } : Jvm.MethodName)) ∈ BIG := tb_3 73 rfl rfl
set_option maxRecDepth 100000 in
theorem w_9b9d7b56 : (Jvm.Cond.instanceMethod ({ cls := "VerseCommittee", name := "scholar", desc := "(IZ)I" } : Jvm.MethodName)) ∈ BIG := tb_3 74 rfl rfl
set_option maxRecDepth 100000 in
theorem w_4fc22653 : (Jvm.Cond.selects "VerseCommittee" ({ cls := "VerseCommittee", name := "scholar", desc := "(IZ)I" } : Jvm.MethodName) ({ cls := "VerseCommittee", name := "scholar", desc := "(IZ)I" } : Jvm.MethodName)) ∈ BIG := tb_3 75 rfl rfl
set_option maxRecDepth 100000 in
theorem w_257efaef : (Jvm.Cond.code ({ cls := "VerseCommittee", name := "scholar", desc := "(IZ)I" } : Jvm.MethodName) prog_1_method_11_code (3 : Nat) (Option.some Jvm.ClassFile.FieldType.int)) ∈ BIG := tb_3 76 rfl rfl
set_option maxRecDepth 100000 in
theorem w_4f3e7ab3 : (Jvm.Cond.methodLink "VerseCommittee" (156 : Nat) ({ cls := "VerseCommittee$People", name := "hasCompany", desc := "(I)Z" } : Jvm.MethodName)) ∈ BIG := tb_3 77 rfl rfl
set_option maxRecDepth 100000 in
theorem w_299f1a18 : (Jvm.Cond.instanceMethod ({ cls := "VerseCommittee$People", name := "hasCompany", desc := "(I)Z" } : Jvm.MethodName)) ∈ BIG := tb_3 78 rfl rfl
set_option maxRecDepth 100000 in
theorem w_0e7d3989 : (Jvm.Cond.selects "VerseCommittee$People" ({ cls := "VerseCommittee$People", name := "hasCompany", desc := "(I)Z" } : Jvm.MethodName) ({ cls := "VerseCommittee$People", name := "hasCompany", desc := "(I)Z" } : Jvm.MethodName)) ∈ BIG := tb_3 79 rfl rfl
set_option maxRecDepth 100000 in
theorem w_9b1c79d6 : (Jvm.Cond.code ({ cls := "VerseCommittee$People", name := "hasCompany", desc := "(I)Z" } : Jvm.MethodName) prog_6_method_4_code (2 : Nat) (Option.some Jvm.ClassFile.FieldType.boolean)) ∈ BIG := tb_3 80 rfl rfl
set_option maxRecDepth 100000 in
theorem w_40727869 : (Jvm.Cond.methodLink "VerseCommittee" (159 : Nat) ({ cls := "VerseCommittee$People", name := "enterScholar", desc := "(IZ)I" } : Jvm.MethodName)) ∈ BIG := tb_3 81 rfl rfl
set_option maxRecDepth 100000 in
theorem w_63c66cfb : (Jvm.Cond.instanceMethod ({ cls := "VerseCommittee$People", name := "enterScholar", desc := "(IZ)I" } : Jvm.MethodName)) ∈ BIG := tb_3 82 rfl rfl
set_option maxRecDepth 100000 in
theorem w_3b588f01 : (Jvm.Cond.selects "VerseCommittee$People" ({ cls := "VerseCommittee$People", name := "enterScholar", desc := "(IZ)I" } : Jvm.MethodName) ({ cls := "VerseCommittee$People", name := "enterScholar", desc := "(IZ)I" } : Jvm.MethodName)) ∈ BIG := tb_3 83 rfl rfl
set_option maxRecDepth 100000 in
theorem w_7134dd81 : (Jvm.Cond.code ({ cls := "VerseCommittee$People", name := "enterScholar", desc := "(IZ)I" } : Jvm.MethodName) prog_6_method_7_code (4 : Nat) (Option.some Jvm.ClassFile.FieldType.int)) ∈ BIG := tb_3 84 rfl rfl
set_option maxRecDepth 100000 in
theorem w_18d886b1 : (Jvm.Cond.methodLink "VerseCommittee$People" (28 : Nat) ({ cls := "VerseCommittee$People", name := "hasCompany", desc := "(I)Z" } : Jvm.MethodName)) ∈ BIG := tb_3 85 rfl rfl
set_option maxRecDepth 100000 in
theorem w_9896a829 : (Jvm.Cond.methodLink "VerseCommitteeLaw" (59 : Nat) ({ cls := "VerseCommittee", name := "rules", desc := "(IIII)I" } : Jvm.MethodName)) ∈ BIG := tb_3 86 rfl rfl
set_option maxRecDepth 100000 in
theorem w_1301d9ef : (Jvm.Cond.instanceMethod ({ cls := "VerseCommittee", name := "rules", desc := "(IIII)I" } : Jvm.MethodName)) ∈ BIG := tb_3 87 rfl rfl
set_option maxRecDepth 100000 in
theorem w_5a3fb7f2 : (Jvm.Cond.selects "VerseCommittee" ({ cls := "VerseCommittee", name := "rules", desc := "(IIII)I" } : Jvm.MethodName) ({ cls := "VerseCommittee", name := "rules", desc := "(IIII)I" } : Jvm.MethodName)) ∈ BIG := tb_3 88 rfl rfl
set_option maxRecDepth 100000 in
theorem w_e0a6646c : (Jvm.Cond.code ({ cls := "VerseCommittee", name := "rules", desc := "(IIII)I" } : Jvm.MethodName) prog_1_method_12_code (6 : Nat) (Option.some Jvm.ClassFile.FieldType.int)) ∈ BIG := tb_3 89 rfl rfl
set_option maxRecDepth 100000 in
theorem w_93e99856 : (Jvm.Cond.methodLink "VerseCommittee" (163 : Nat) ({ cls := "VerseCommittee$Laws", name := "isFull", desc := "()Z" } : Jvm.MethodName)) ∈ BIG := tb_3 90 rfl rfl
set_option maxRecDepth 100000 in
theorem w_456ef66c : (Jvm.Cond.instanceMethod ({ cls := "VerseCommittee$Laws", name := "isFull", desc := "()Z" } : Jvm.MethodName)) ∈ BIG := tb_3 91 rfl rfl
set_option maxRecDepth 100000 in
theorem w_fd133109 : (Jvm.Cond.selects "VerseCommittee$Laws" ({ cls := "VerseCommittee$Laws", name := "isFull", desc := "()Z" } : Jvm.MethodName) ({ cls := "VerseCommittee$Laws", name := "isFull", desc := "()Z" } : Jvm.MethodName)) ∈ BIG := tb_3 92 rfl rfl
set_option maxRecDepth 100000 in
theorem w_52117533 : (Jvm.Cond.code ({ cls := "VerseCommittee$Laws", name := "isFull", desc := "()Z" } : Jvm.MethodName) prog_4_method_3_code (1 : Nat) (Option.some Jvm.ClassFile.FieldType.boolean)) ∈ BIG := tb_3 93 rfl rfl
set_option maxRecDepth 100000 in
theorem w_33e41552 : (Jvm.Cond.methodLink "VerseCommittee" (167 : Nat) ({ cls := "VerseCommittee$Parser", name := "read", desc := "([II)I" } : Jvm.MethodName)) ∈ BIG := tb_3 94 rfl rfl
set_option maxRecDepth 100000 in
theorem w_7fe892be : (Jvm.Cond.instanceMethod ({ cls := "VerseCommittee$Parser", name := "read", desc := "([II)I" } : Jvm.MethodName)) ∈ BIG := tb_3 95 rfl rfl
set_option maxRecDepth 100000 in
theorem w_e3f72865 : (Jvm.Cond.selects "VerseCommittee$Parser" ({ cls := "VerseCommittee$Parser", name := "read", desc := "([II)I" } : Jvm.MethodName) ({ cls := "VerseCommittee$Parser", name := "read", desc := "([II)I" } : Jvm.MethodName)) ∈ BIG := tb_3 96 rfl rfl
set_option maxRecDepth 100000 in
theorem w_b23bf444 : (Jvm.Cond.code ({ cls := "VerseCommittee$Parser", name := "read", desc := "([II)I" } : Jvm.MethodName) prog_5_method_3_code (5 : Nat) (Option.some Jvm.ClassFile.FieldType.int)) ∈ BIG := tb_3 97 rfl rfl
set_option maxRecDepth 100000 in
theorem w_cce7e9a5 : (Jvm.Cond.methodLink "VerseCommittee$Parser" (37 : Nat) ({ cls := "VerseCommittee$Parser", name := "readClause", desc := "(I)Z" } : Jvm.MethodName)) ∈ BIG := tb_3 98 rfl rfl
set_option maxRecDepth 100000 in
theorem w_f92692b5 : (Jvm.Cond.instanceMethod ({ cls := "VerseCommittee$Parser", name := "readClause", desc := "(I)Z" } : Jvm.MethodName)) ∈ BIG := tb_3 100 rfl rfl
set_option maxRecDepth 100000 in
theorem w_541e5862 : (Jvm.Cond.code ({ cls := "VerseCommittee$Parser", name := "readClause", desc := "(I)Z" } : Jvm.MethodName) prog_5_method_8_code (3 : Nat) (Option.some Jvm.ClassFile.FieldType.boolean)) ∈ BIG := tb_3 101 rfl rfl
set_option maxRecDepth 100000 in
theorem w_7e046976 : (Jvm.Cond.methodLink "VerseCommittee$Parser" (47 : Nat) ({ cls := "VerseCommittee$Parser", name := "sign", desc := "()I" } : Jvm.MethodName)) ∈ BIG := tb_3 102 rfl rfl
set_option maxRecDepth 100000 in
theorem w_f4f1cecb : (Jvm.Cond.instanceMethod ({ cls := "VerseCommittee$Parser", name := "sign", desc := "()I" } : Jvm.MethodName)) ∈ BIG := tb_3 104 rfl rfl
set_option maxRecDepth 100000 in
theorem w_aa63960f : (Jvm.Cond.code ({ cls := "VerseCommittee$Parser", name := "sign", desc := "()I" } : Jvm.MethodName) prog_5_method_4_code (1 : Nat) (Option.some Jvm.ClassFile.FieldType.int)) ∈ BIG := tb_3 105 rfl rfl
set_option maxRecDepth 100000 in
theorem w_60a404cb : (Jvm.Cond.methodLink "VerseCommittee$Parser" (51 : Nat) ({ cls := "VerseCommittee$Parser", name := "fail", desc := "(II)Z" } : Jvm.MethodName)) ∈ BIG := tb_3 106 rfl rfl
set_option maxRecDepth 100000 in
theorem w_9beb53fe : (Jvm.Cond.instanceMethod ({ cls := "VerseCommittee$Parser", name := "fail", desc := "(II)Z" } : Jvm.MethodName)) ∈ BIG := tb_3 108 rfl rfl
set_option maxRecDepth 100000 in
theorem w_c9879952 : (Jvm.Cond.code ({ cls := "VerseCommittee$Parser", name := "fail", desc := "(II)Z" } : Jvm.MethodName) prog_5_method_5_code (3 : Nat) (Option.some Jvm.ClassFile.FieldType.boolean)) ∈ BIG := tb_3 109 rfl rfl
set_option maxRecDepth 100000 in
theorem w_8a0ab1a2 : (Jvm.Cond.methodLink "VerseCommittee$Parser" (55 : Nat) ({ cls := "VerseCommittee$Laws", name := "putClause", desc := "(III)V" } : Jvm.MethodName)) ∈ BIG := tb_3 110 rfl rfl
set_option maxRecDepth 100000 in
theorem w_e94b290e : (Jvm.Cond.instanceMethod ({ cls := "VerseCommittee$Laws", name := "putClause", desc := "(III)V" } : Jvm.MethodName)) ∈ BIG := tb_3 111 rfl rfl
set_option maxRecDepth 100000 in
theorem w_fb047f29 : (Jvm.Cond.selects "VerseCommittee$Laws" ({ cls := "VerseCommittee$Laws", name := "putClause", desc := "(III)V" } : Jvm.MethodName) ({ cls := "VerseCommittee$Laws", name := "putClause", desc := "(III)V" } : Jvm.MethodName)) ∈ BIG := tb_3 112 rfl rfl
set_option maxRecDepth 100000 in
theorem w_b284a658 : (Jvm.Cond.code ({ cls := "VerseCommittee$Laws", name := "putClause", desc := "(III)V" } : Jvm.MethodName) prog_4_method_9_code (5 : Nat) (Option.none : Option Jvm.ClassFile.FieldType)) ∈ BIG := tb_3 113 rfl rfl
set_option maxRecDepth 100000 in
theorem w_05b839db : (Jvm.Cond.methodLink "VerseCommittee$Laws" (52 : Nat) ({ cls := "VerseCommittee$Laws", name := "isFull", desc := "()Z" } : Jvm.MethodName)) ∈ BIG := tb_3 114 rfl rfl
set_option maxRecDepth 100000 in
theorem w_d0d0c5cd : (Jvm.Cond.methodLink "VerseCommittee$Laws" (56 : Nat) ({ cls := "VerseCommittee$Laws", name := "clauseOf", desc := "(II)I" } : Jvm.MethodName)) ∈ BIG := tb_3 115 rfl rfl
set_option maxRecDepth 100000 in
theorem w_9ae93726 : (Jvm.Cond.static ({ cls := "VerseCommittee$Laws", name := "clauseOf", desc := "(II)I" } : Jvm.MethodName)) ∈ BIG := tb_3 116 rfl rfl
set_option maxRecDepth 100000 in
theorem w_2ab2cdeb : (Jvm.Cond.code ({ cls := "VerseCommittee$Laws", name := "clauseOf", desc := "(II)I" } : Jvm.MethodName) prog_4_method_4_code (2 : Nat) (Option.some Jvm.ClassFile.FieldType.int)) ∈ BIG := tb_3 117 rfl rfl
set_option maxRecDepth 100000 in
theorem w_bcb549bb : (Jvm.Cond.methodLink "VerseCommittee$Parser" (59 : Nat) ({ cls := "VerseCommittee$Laws", name := "putMeaning", desc := "(IIII)V" } : Jvm.MethodName)) ∈ BIG := tb_3 118 rfl rfl
set_option maxRecDepth 100000 in
theorem w_446dab6b : (Jvm.Cond.instanceMethod ({ cls := "VerseCommittee$Laws", name := "putMeaning", desc := "(IIII)V" } : Jvm.MethodName)) ∈ BIG := tb_3 119 rfl rfl
set_option maxRecDepth 100000 in
theorem w_223d880a : (Jvm.Cond.selects "VerseCommittee$Laws" ({ cls := "VerseCommittee$Laws", name := "putMeaning", desc := "(IIII)V" } : Jvm.MethodName) ({ cls := "VerseCommittee$Laws", name := "putMeaning", desc := "(IIII)V" } : Jvm.MethodName)) ∈ BIG := tb_3 120 rfl rfl
set_option maxRecDepth 100000 in
theorem w_68941487 : (Jvm.Cond.code ({ cls := "VerseCommittee$Laws", name := "putMeaning", desc := "(IIII)V" } : Jvm.MethodName) prog_4_method_10_code (6 : Nat) (Option.none : Option Jvm.ClassFile.FieldType)) ∈ BIG := tb_3 121 rfl rfl
set_option maxRecDepth 100000 in
theorem w_d8bc5196 : (Jvm.Cond.methodLink "VerseCommittee$Parser" (63 : Nat) ({ cls := "VerseCommittee$Parser", name := "readTurning", desc := "(I)Z" } : Jvm.MethodName)) ∈ BIG := tb_3 122 rfl rfl
set_option maxRecDepth 100000 in
theorem w_38d304af : (Jvm.Cond.instanceMethod ({ cls := "VerseCommittee$Parser", name := "readTurning", desc := "(I)Z" } : Jvm.MethodName)) ∈ BIG := tb_3 124 rfl rfl
set_option maxRecDepth 100000 in
theorem w_5a506732 : (Jvm.Cond.code ({ cls := "VerseCommittee$Parser", name := "readTurning", desc := "(I)Z" } : Jvm.MethodName) prog_5_method_9_code (5 : Nat) (Option.some Jvm.ClassFile.FieldType.boolean)) ∈ BIG := tb_3 125 rfl rfl
set_option maxRecDepth 100000 in
theorem w_82067e52 : (Jvm.Cond.methodLink "VerseCommittee$Parser" (78 : Nat) ({ cls := "VerseCommittee$Parser", name := "readNumber", desc := "(I)I" } : Jvm.MethodName)) ∈ BIG := tb_3 126 rfl rfl
set_option maxRecDepth 100000 in
theorem w_d08b2b95 : (Jvm.Cond.instanceMethod ({ cls := "VerseCommittee$Parser", name := "readNumber", desc := "(I)I" } : Jvm.MethodName)) ∈ BIG := tb_3 128 rfl rfl
set_option maxRecDepth 100000 in
theorem w_cfb3f4a6 : (Jvm.Cond.code ({ cls := "VerseCommittee$Parser", name := "readNumber", desc := "(I)I" } : Jvm.MethodName) prog_5_method_14_code (5 : Nat) (Option.some Jvm.ClassFile.FieldType.int)) ∈ BIG := tb_3 129 rfl rfl
set_option maxRecDepth 100000 in
theorem w_14c60083 : (Jvm.Cond.methodLink "VerseCommittee$Parser" (82 : Nat) ({ cls := "VerseCommittee$Parser", name := "isBetween", desc := "(III)Z" } : Jvm.MethodName)) ∈ BIG := tb_3 130 rfl rfl
set_option maxRecDepth 100000 in
theorem w_91801e82 : (Jvm.Cond.static ({ cls := "VerseCommittee$Parser", name := "isBetween", desc := "(III)Z" } : Jvm.MethodName)) ∈ BIG := tb_3 131 rfl rfl
set_option maxRecDepth 100000 in
theorem w_d6158a87 : (Jvm.Cond.code ({ cls := "VerseCommittee$Parser", name := "isBetween", desc := "(III)Z" } : Jvm.MethodName) prog_5_method_7_code (3 : Nat) (Option.some Jvm.ClassFile.FieldType.boolean)) ∈ BIG := tb_3 132 rfl rfl
set_option maxRecDepth 100000 in
theorem w_dfc14158 : (Jvm.Cond.methodLink "VerseCommittee$Parser" (41 : Nat) ({ cls := "VerseCommittee$Parser", name := "pass", desc := "(I)Z" } : Jvm.MethodName)) ∈ BIG := tb_3 133 rfl rfl
set_option maxRecDepth 100000 in
theorem w_81464837 : (Jvm.Cond.instanceMethod ({ cls := "VerseCommittee$Parser", name := "pass", desc := "(I)Z" } : Jvm.MethodName)) ∈ BIG := tb_3 135 rfl rfl
set_option maxRecDepth 100000 in
theorem w_40b6ff6e : (Jvm.Cond.code ({ cls := "VerseCommittee$Parser", name := "pass", desc := "(I)Z" } : Jvm.MethodName) prog_5_method_6_code (2 : Nat) (Option.some Jvm.ClassFile.FieldType.boolean)) ∈ BIG := tb_3 136 rfl rfl
set_option maxRecDepth 100000 in
theorem w_ebce24f3 : (Jvm.Cond.methodLink "VerseCommittee$Parser" (66 : Nat) ({ cls := "VerseCommittee$Parser", name := "readTail", desc := "(II)Z" } : Jvm.MethodName)) ∈ BIG := tb_3 137 rfl rfl
set_option maxRecDepth 100000 in
theorem w_5432a6d1 : (Jvm.Cond.instanceMethod ({ cls := "VerseCommittee$Parser", name := "readTail", desc := "(II)Z" } : Jvm.MethodName)) ∈ BIG := tb_3 139 rfl rfl
set_option maxRecDepth 100000 in
theorem w_ea42e930 : (Jvm.Cond.code ({ cls := "VerseCommittee$Parser", name := "readTail", desc := "(II)Z" } : Jvm.MethodName) prog_5_method_10_code (3 : Nat) (Option.some Jvm.ClassFile.FieldType.boolean)) ∈ BIG := tb_3 140 rfl rfl
set_option maxRecDepth 100000 in
theorem w_52e7bf47 : (Jvm.Cond.methodLink "VerseCommittee$Parser" (88 : Nat) ({ cls := "VerseCommittee$Parser", name := "readCondition", desc := "(I)Z" } : Jvm.MethodName)) ∈ BIG := tb_3 141 rfl rfl
set_option maxRecDepth 100000 in
theorem w_43a287a5 : (Jvm.Cond.instanceMethod ({ cls := "VerseCommittee$Parser", name := "readCondition", desc := "(I)Z" } : Jvm.MethodName)) ∈ BIG := tb_3 143 rfl rfl
set_option maxRecDepth 100000 in
theorem w_2a92b72e : (Jvm.Cond.code ({ cls := "VerseCommittee$Parser", name := "readCondition", desc := "(I)Z" } : Jvm.MethodName) prog_5_method_15_code (4 : Nat) (Option.some Jvm.ClassFile.FieldType.boolean)) ∈ BIG := tb_3 144 rfl rfl
set_option maxRecDepth 100000 in
theorem w_ab618568 : (Jvm.Cond.methodLink "VerseCommittee$Parser" (92 : Nat) ({ cls := "VerseCommittee$Parser", name := "readPart", desc := "(I)Z" } : Jvm.MethodName)) ∈ BIG := tb_3 145 rfl rfl
set_option maxRecDepth 100000 in
theorem w_32199eb8 : (Jvm.Cond.instanceMethod ({ cls := "VerseCommittee$Parser", name := "readPart", desc := "(I)Z" } : Jvm.MethodName)) ∈ BIG := tb_3 147 rfl rfl
set_option maxRecDepth 100000 in
theorem w_a610af6e : (Jvm.Cond.code ({ cls := "VerseCommittee$Parser", name := "readPart", desc := "(I)Z" } : Jvm.MethodName) prog_5_method_16_code (4 : Nat) (Option.some Jvm.ClassFile.FieldType.boolean)) ∈ BIG := tb_3 148 rfl rfl
set_option maxRecDepth 100000 in
theorem w_4eaa04df : (Jvm.Cond.methodLink "VerseCommittee$Parser" (95 : Nat) ({ cls := "VerseCommittee$Parser", name := "readPiece", desc := "(I)Z" } : Jvm.MethodName)) ∈ BIG := tb_3 149 rfl rfl
set_option maxRecDepth 100000 in
theorem w_062b0f4f : (Jvm.Cond.instanceMethod ({ cls := "VerseCommittee$Parser", name := "readPiece", desc := "(I)Z" } : Jvm.MethodName)) ∈ BIG := tb_3 151 rfl rfl
set_option maxRecDepth 100000 in
theorem w_b1dab8f7 : (Jvm.Cond.code ({ cls := "VerseCommittee$Parser", name := "readPiece", desc := "(I)Z" } : Jvm.MethodName) prog_5_method_17_code (3 : Nat) (Option.some Jvm.ClassFile.FieldType.boolean)) ∈ BIG := tb_3 152 rfl rfl
set_option maxRecDepth 100000 in
theorem w_b85a879d : (Jvm.Cond.methodLink "VerseCommittee$Parser" (98 : Nat) ({ cls := "VerseCommittee$Parser", name := "readOpening", desc := "(I)Z" } : Jvm.MethodName)) ∈ BIG := tb_3 153 rfl rfl
set_option maxRecDepth 100000 in
theorem w_622a9066 : (Jvm.Cond.instanceMethod ({ cls := "VerseCommittee$Parser", name := "readOpening", desc := "(I)Z" } : Jvm.MethodName)) ∈ BIG := tb_3 155 rfl rfl
set_option maxRecDepth 100000 in
theorem w_a20652f6 : (Jvm.Cond.code ({ cls := "VerseCommittee$Parser", name := "readOpening", desc := "(I)Z" } : Jvm.MethodName) prog_5_method_18_code (2 : Nat) (Option.some Jvm.ClassFile.FieldType.boolean)) ∈ BIG := tb_3 156 rfl rfl
set_option maxRecDepth 100000 in
theorem w_82aad13a : (Jvm.Cond.methodLink "VerseCommittee$Parser" (101 : Nat) ({ cls := "VerseCommittee$Parser", name := "readSum", desc := "(I)Z" } : Jvm.MethodName)) ∈ BIG := tb_3 157 rfl rfl
set_option maxRecDepth 100000 in
theorem w_6ab0470f : (Jvm.Cond.instanceMethod ({ cls := "VerseCommittee$Parser", name := "readSum", desc := "(I)Z" } : Jvm.MethodName)) ∈ BIG := tb_3 159 rfl rfl
set_option maxRecDepth 100000 in
theorem w_50ca2749 : (Jvm.Cond.code ({ cls := "VerseCommittee$Parser", name := "readSum", desc := "(I)Z" } : Jvm.MethodName) prog_5_method_20_code (4 : Nat) (Option.some Jvm.ClassFile.FieldType.boolean)) ∈ BIG := tb_3 160 rfl rfl
set_option maxRecDepth 100000 in
theorem w_a5dbb3ff : (Jvm.Cond.methodLink "VerseCommittee$Parser" (108 : Nat) ({ cls := "VerseCommittee$Parser", name := "readTerm", desc := "(I)Z" } : Jvm.MethodName)) ∈ BIG := tb_3 161 rfl rfl
set_option maxRecDepth 100000 in
theorem w_ac44617e : (Jvm.Cond.instanceMethod ({ cls := "VerseCommittee$Parser", name := "readTerm", desc := "(I)Z" } : Jvm.MethodName)) ∈ BIG := tb_3 163 rfl rfl
set_option maxRecDepth 100000 in
theorem w_807cc2e6 : (Jvm.Cond.code ({ cls := "VerseCommittee$Parser", name := "readTerm", desc := "(I)Z" } : Jvm.MethodName) prog_5_method_21_code (4 : Nat) (Option.some Jvm.ClassFile.FieldType.boolean)) ∈ BIG := tb_3 164 rfl rfl
set_option maxRecDepth 100000 in
theorem w_308ab226 : (Jvm.Cond.methodLink "VerseCommittee$Parser" (111 : Nat) ({ cls := "VerseCommittee$Parser", name := "readFactor", desc := "(I)Z" } : Jvm.MethodName)) ∈ BIG := tb_3 165 rfl rfl
set_option maxRecDepth 100000 in
theorem w_e7a0ab66 : (Jvm.Cond.instanceMethod ({ cls := "VerseCommittee$Parser", name := "readFactor", desc := "(I)Z" } : Jvm.MethodName)) ∈ BIG := tb_3 167 rfl rfl
set_option maxRecDepth 100000 in
theorem w_cdf6bbf4 : (Jvm.Cond.code ({ cls := "VerseCommittee$Parser", name := "readFactor", desc := "(I)Z" } : Jvm.MethodName) prog_5_method_23_code (2 : Nat) (Option.some Jvm.ClassFile.FieldType.boolean)) ∈ BIG := tb_3 168 rfl rfl
set_option maxRecDepth 100000 in
theorem w_0b1d1b17 : (Jvm.Cond.constant "VerseCommittee$Parser" (91 : Nat) (99999 : Int32)) ∈ BIG := tb_3 169 rfl rfl
set_option maxRecDepth 100000 in
theorem w_6765c15f : (Jvm.Cond.methodLink "VerseCommittee$Parser" (114 : Nat) ({ cls := "VerseCommittee$Parser", name := "isTermSign", desc := "()Z" } : Jvm.MethodName)) ∈ BIG := tb_3 170 rfl rfl
set_option maxRecDepth 100000 in
theorem w_3640bf9a : (Jvm.Cond.instanceMethod ({ cls := "VerseCommittee$Parser", name := "isTermSign", desc := "()Z" } : Jvm.MethodName)) ∈ BIG := tb_3 172 rfl rfl
set_option maxRecDepth 100000 in
theorem w_83b7c590 : (Jvm.Cond.code ({ cls := "VerseCommittee$Parser", name := "isTermSign", desc := "()Z" } : Jvm.MethodName) prog_5_method_22_code (1 : Nat) (Option.some Jvm.ClassFile.FieldType.boolean)) ∈ BIG := tb_3 173 rfl rfl
set_option maxRecDepth 100000 in
theorem w_50e7bb4c : (Jvm.Cond.methodLink "VerseCommittee$Parser" (104 : Nat) ({ cls := "VerseCommittee$Parser", name := "readComparison", desc := "()Z" } : Jvm.MethodName)) ∈ BIG := tb_3 174 rfl rfl
set_option maxRecDepth 100000 in
theorem w_2d82e366 : (Jvm.Cond.instanceMethod ({ cls := "VerseCommittee$Parser", name := "readComparison", desc := "()Z" } : Jvm.MethodName)) ∈ BIG := tb_3 176 rfl rfl
set_option maxRecDepth 100000 in
theorem w_59a63931 : (Jvm.Cond.code ({ cls := "VerseCommittee$Parser", name := "readComparison", desc := "()Z" } : Jvm.MethodName) prog_5_method_19_code (1 : Nat) (Option.some Jvm.ClassFile.FieldType.boolean)) ∈ BIG := tb_3 177 rfl rfl
set_option maxRecDepth 100000 in
theorem w_91eff4ec : (Jvm.Cond.methodLink "VerseCommittee$Parser" (69 : Nat) ({ cls := "VerseCommittee$Parser", name := "readRanks", desc := "(I)Z" } : Jvm.MethodName)) ∈ BIG := tb_3 178 rfl rfl
set_option maxRecDepth 100000 in
theorem w_13c6dd6d : (Jvm.Cond.instanceMethod ({ cls := "VerseCommittee$Parser", name := "readRanks", desc := "(I)Z" } : Jvm.MethodName)) ∈ BIG := tb_3 180 rfl rfl
set_option maxRecDepth 100000 in
theorem w_31860d73 : (Jvm.Cond.code ({ cls := "VerseCommittee$Parser", name := "readRanks", desc := "(I)Z" } : Jvm.MethodName) prog_5_method_11_code (6 : Nat) (Option.some Jvm.ClassFile.FieldType.boolean)) ∈ BIG := tb_3 181 rfl rfl
set_option maxRecDepth 100000 in
theorem w_1502eff9 : (Jvm.Cond.methodLink "VerseCommittee$Parser" (72 : Nat) ({ cls := "VerseCommittee$Parser", name := "readHundredths", desc := "(I)Z" } : Jvm.MethodName)) ∈ BIG := tb_3 182 rfl rfl
set_option maxRecDepth 100000 in
theorem w_ff475c81 : (Jvm.Cond.instanceMethod ({ cls := "VerseCommittee$Parser", name := "readHundredths", desc := "(I)Z" } : Jvm.MethodName)) ∈ BIG := tb_3 184 rfl rfl
set_option maxRecDepth 100000 in
theorem w_bc1ce9dc : (Jvm.Cond.code ({ cls := "VerseCommittee$Parser", name := "readHundredths", desc := "(I)Z" } : Jvm.MethodName) prog_5_method_12_code (4 : Nat) (Option.some Jvm.ClassFile.FieldType.boolean)) ∈ BIG := tb_3 185 rfl rfl
set_option maxRecDepth 100000 in
theorem w_238b9c84 : (Jvm.Cond.methodLink "VerseCommittee$Parser" (75 : Nat) ({ cls := "VerseCommittee$Parser", name := "readRest", desc := "(I)Z" } : Jvm.MethodName)) ∈ BIG := tb_3 186 rfl rfl
set_option maxRecDepth 100000 in
theorem w_18445bed : (Jvm.Cond.instanceMethod ({ cls := "VerseCommittee$Parser", name := "readRest", desc := "(I)Z" } : Jvm.MethodName)) ∈ BIG := tb_3 188 rfl rfl
set_option maxRecDepth 100000 in
theorem w_9744b0fe : (Jvm.Cond.code ({ cls := "VerseCommittee$Parser", name := "readRest", desc := "(I)Z" } : Jvm.MethodName) prog_5_method_13_code (3 : Nat) (Option.some Jvm.ClassFile.FieldType.boolean)) ∈ BIG := tb_3 189 rfl rfl
set_option maxRecDepth 100000 in
theorem w_3374384e : (Jvm.Cond.methodLink "VerseCommittee" (170 : Nat) ({ cls := "VerseCommittee$Laws", name := "putDays", desc := "(III)V" } : Jvm.MethodName)) ∈ BIG := tb_3 190 rfl rfl
set_option maxRecDepth 100000 in
theorem w_cbeb6a9b : (Jvm.Cond.instanceMethod ({ cls := "VerseCommittee$Laws", name := "putDays", desc := "(III)V" } : Jvm.MethodName)) ∈ BIG := tb_3 191 rfl rfl
set_option maxRecDepth 100000 in
theorem w_726f3238 : (Jvm.Cond.selects "VerseCommittee$Laws" ({ cls := "VerseCommittee$Laws", name := "putDays", desc := "(III)V" } : Jvm.MethodName) ({ cls := "VerseCommittee$Laws", name := "putDays", desc := "(III)V" } : Jvm.MethodName)) ∈ BIG := tb_3 192 rfl rfl
set_option maxRecDepth 100000 in
theorem w_b915d8da : (Jvm.Cond.code ({ cls := "VerseCommittee$Laws", name := "putDays", desc := "(III)V" } : Jvm.MethodName) prog_4_method_11_code (4 : Nat) (Option.none : Option Jvm.ClassFile.FieldType)) ∈ BIG := tb_3 193 rfl rfl
set_option maxRecDepth 100000 in
theorem w_1cf6127c : (Jvm.Cond.methodLink "VerseCommittee" (174 : Nat) ({ cls := "VerseCommittee$Parser", name := "clausesRead", desc := "()I" } : Jvm.MethodName)) ∈ BIG := tb_3 194 rfl rfl
set_option maxRecDepth 100000 in
theorem w_c545be00 : (Jvm.Cond.instanceMethod ({ cls := "VerseCommittee$Parser", name := "clausesRead", desc := "()I" } : Jvm.MethodName)) ∈ BIG := tb_3 195 rfl rfl
set_option maxRecDepth 100000 in
theorem w_5c002ec1 : (Jvm.Cond.selects "VerseCommittee$Parser" ({ cls := "VerseCommittee$Parser", name := "clausesRead", desc := "()I" } : Jvm.MethodName) ({ cls := "VerseCommittee$Parser", name := "clausesRead", desc := "()I" } : Jvm.MethodName)) ∈ BIG := tb_3 196 rfl rfl
set_option maxRecDepth 100000 in
theorem w_a39e9eb6 : (Jvm.Cond.code ({ cls := "VerseCommittee$Parser", name := "clausesRead", desc := "()I" } : Jvm.MethodName) prog_5_method_2_code (1 : Nat) (Option.some Jvm.ClassFile.FieldType.int)) ∈ BIG := tb_3 197 rfl rfl
set_option maxRecDepth 100000 in
theorem w_462d3863 : (Jvm.Cond.methodLink "VerseCommittee" (178 : Nat) ({ cls := "VerseCommittee$Laws", name := "enact", desc := "([III)I" } : Jvm.MethodName)) ∈ BIG := tb_3 198 rfl rfl
set_option maxRecDepth 100000 in
theorem w_ae25e00c : (Jvm.Cond.instanceMethod ({ cls := "VerseCommittee$Laws", name := "enact", desc := "([III)I" } : Jvm.MethodName)) ∈ BIG := tb_3 199 rfl rfl
set_option maxRecDepth 100000 in
theorem w_cd6ad574 : (Jvm.Cond.selects "VerseCommittee$Laws" ({ cls := "VerseCommittee$Laws", name := "enact", desc := "([III)I" } : Jvm.MethodName) ({ cls := "VerseCommittee$Laws", name := "enact", desc := "([III)I" } : Jvm.MethodName)) ∈ BIG := tb_3 200 rfl rfl
set_option maxRecDepth 100000 in
theorem w_9a7b24e9 : (Jvm.Cond.code ({ cls := "VerseCommittee$Laws", name := "enact", desc := "([III)I" } : Jvm.MethodName) prog_4_method_12_code (6 : Nat) (Option.some Jvm.ClassFile.FieldType.int)) ∈ BIG := tb_3 201 rfl rfl
set_option maxRecDepth 100000 in
theorem w_bc75a666 : (Jvm.Cond.methodLink "VerseCommitteeLaw" (64 : Nat) ({ cls := "VerseCommittee", name := "holds", desc := "(IIII)I" } : Jvm.MethodName)) ∈ BIG := tb_3 202 rfl rfl
set_option maxRecDepth 100000 in
theorem w_a2393d19 : (Jvm.Cond.instanceMethod ({ cls := "VerseCommittee", name := "holds", desc := "(IIII)I" } : Jvm.MethodName)) ∈ BIG := tb_3 203 rfl rfl
set_option maxRecDepth 100000 in
theorem w_78dd430d : (Jvm.Cond.selects "VerseCommittee" ({ cls := "VerseCommittee", name := "holds", desc := "(IIII)I" } : Jvm.MethodName) ({ cls := "VerseCommittee", name := "holds", desc := "(IIII)I" } : Jvm.MethodName)) ∈ BIG := tb_3 204 rfl rfl
set_option maxRecDepth 100000 in
theorem w_1f365742 : (Jvm.Cond.code ({ cls := "VerseCommittee", name := "holds", desc := "(IIII)I" } : Jvm.MethodName) prog_1_method_13_code (5 : Nat) (Option.some Jvm.ClassFile.FieldType.int)) ∈ BIG := tb_3 205 rfl rfl
set_option maxRecDepth 100000 in
theorem w_ccf1ec00 : (Jvm.Cond.methodLink "VerseCommittee" (182 : Nat) ({ cls := "VerseCommittee$Laws", name := "hasClause", desc := "(II)Z" } : Jvm.MethodName)) ∈ BIG := tb_3 206 rfl rfl
set_option maxRecDepth 100000 in
theorem w_de5fafc8 : (Jvm.Cond.instanceMethod ({ cls := "VerseCommittee$Laws", name := "hasClause", desc := "(II)Z" } : Jvm.MethodName)) ∈ BIG := tb_3 207 rfl rfl
set_option maxRecDepth 100000 in
theorem w_7b588e5c : (Jvm.Cond.selects "VerseCommittee$Laws" ({ cls := "VerseCommittee$Laws", name := "hasClause", desc := "(II)Z" } : Jvm.MethodName) ({ cls := "VerseCommittee$Laws", name := "hasClause", desc := "(II)Z" } : Jvm.MethodName)) ∈ BIG := tb_3 208 rfl rfl
set_option maxRecDepth 100000 in
theorem w_9ab04f75 : (Jvm.Cond.code ({ cls := "VerseCommittee$Laws", name := "hasClause", desc := "(II)Z" } : Jvm.MethodName) prog_4_method_8_code (3 : Nat) (Option.some Jvm.ClassFile.FieldType.boolean)) ∈ BIG := tb_3 209 rfl rfl
set_option maxRecDepth 100000 in
theorem w_d6a59676 : (Jvm.Cond.methodLink "VerseCommittee$Laws" (48 : Nat) ({ cls := "VerseCommittee$Laws", name := "clausesOf", desc := "(I)I" } : Jvm.MethodName)) ∈ BIG := tb_3 210 rfl rfl
set_option maxRecDepth 100000 in
theorem w_c2ba494d : (Jvm.Cond.instanceMethod ({ cls := "VerseCommittee$Laws", name := "clausesOf", desc := "(I)I" } : Jvm.MethodName)) ∈ BIG := tb_3 211 rfl rfl
set_option maxRecDepth 100000 in
theorem w_8fb82fed : (Jvm.Cond.selects "VerseCommittee$Laws" ({ cls := "VerseCommittee$Laws", name := "clausesOf", desc := "(I)I" } : Jvm.MethodName) ({ cls := "VerseCommittee$Laws", name := "clausesOf", desc := "(I)I" } : Jvm.MethodName)) ∈ BIG := tb_3 212 rfl rfl
set_option maxRecDepth 100000 in
theorem w_bed624e3 : (Jvm.Cond.code ({ cls := "VerseCommittee$Laws", name := "clausesOf", desc := "(I)I" } : Jvm.MethodName) prog_4_method_7_code (2 : Nat) (Option.some Jvm.ClassFile.FieldType.int)) ∈ BIG := tb_3 213 rfl rfl
set_option maxRecDepth 100000 in
theorem w_5c4133ff : (Jvm.Cond.methodLink "VerseCommittee" (185 : Nat) ({ cls := "VerseCommittee$Reckoner", name := "aim", desc := "(II)V" } : Jvm.MethodName)) ∈ BIG := tb_3 214 rfl rfl
set_option maxRecDepth 100000 in
theorem w_2e5964a7 : (Jvm.Cond.instanceMethod ({ cls := "VerseCommittee$Reckoner", name := "aim", desc := "(II)V" } : Jvm.MethodName)) ∈ BIG := tb_3 215 rfl rfl
set_option maxRecDepth 100000 in
theorem w_35184d15 : (Jvm.Cond.selects "VerseCommittee$Reckoner" ({ cls := "VerseCommittee$Reckoner", name := "aim", desc := "(II)V" } : Jvm.MethodName) ({ cls := "VerseCommittee$Reckoner", name := "aim", desc := "(II)V" } : Jvm.MethodName)) ∈ BIG := tb_3 216 rfl rfl
set_option maxRecDepth 100000 in
theorem w_202e6af0 : (Jvm.Cond.code ({ cls := "VerseCommittee$Reckoner", name := "aim", desc := "(II)V" } : Jvm.MethodName) prog_8_method_2_code (4 : Nat) (Option.none : Option Jvm.ClassFile.FieldType)) ∈ BIG := tb_3 217 rfl rfl
set_option maxRecDepth 100000 in
theorem w_1cd847e1 : (Jvm.Cond.methodLink "VerseCommittee$Reckoner" (37 : Nat) ({ cls := "VerseCommittee$Verses", name := "bookOf", desc := "(I)I" } : Jvm.MethodName)) ∈ BIG := tb_3 218 rfl rfl
set_option maxRecDepth 100000 in
theorem w_ffe94599 : (Jvm.Cond.instanceMethod ({ cls := "VerseCommittee$Verses", name := "bookOf", desc := "(I)I" } : Jvm.MethodName)) ∈ BIG := tb_3 219 rfl rfl
set_option maxRecDepth 100000 in
theorem w_12e93edd : (Jvm.Cond.selects "VerseCommittee$Verses" ({ cls := "VerseCommittee$Verses", name := "bookOf", desc := "(I)I" } : Jvm.MethodName) ({ cls := "VerseCommittee$Verses", name := "bookOf", desc := "(I)I" } : Jvm.MethodName)) ∈ BIG := tb_3 220 rfl rfl
set_option maxRecDepth 100000 in
theorem w_59b56ab7 : (Jvm.Cond.code ({ cls := "VerseCommittee$Verses", name := "bookOf", desc := "(I)I" } : Jvm.MethodName) prog_11_method_5_code (2 : Nat) (Option.some Jvm.ClassFile.FieldType.int)) ∈ BIG := tb_3 221 rfl rfl
set_option maxRecDepth 100000 in
theorem w_d36e1dff : (Jvm.Cond.methodLink "VerseCommittee$Reckoner" (46 : Nat) ({ cls := "VerseCommittee$Verses", name := "measureOf", desc := "(I)I" } : Jvm.MethodName)) ∈ BIG := tb_3 222 rfl rfl
set_option maxRecDepth 100000 in
theorem w_1c7578e8 : (Jvm.Cond.instanceMethod ({ cls := "VerseCommittee$Verses", name := "measureOf", desc := "(I)I" } : Jvm.MethodName)) ∈ BIG := tb_3 223 rfl rfl
set_option maxRecDepth 100000 in
theorem w_1cedac62 : (Jvm.Cond.selects "VerseCommittee$Verses" ({ cls := "VerseCommittee$Verses", name := "measureOf", desc := "(I)I" } : Jvm.MethodName) ({ cls := "VerseCommittee$Verses", name := "measureOf", desc := "(I)I" } : Jvm.MethodName)) ∈ BIG := tb_3 224 rfl rfl
set_option maxRecDepth 100000 in
theorem w_b142da74 : (Jvm.Cond.code ({ cls := "VerseCommittee$Verses", name := "measureOf", desc := "(I)I" } : Jvm.MethodName) prog_11_method_6_code (2 : Nat) (Option.some Jvm.ClassFile.FieldType.int)) ∈ BIG := tb_3 225 rfl rfl
set_option maxRecDepth 100000 in
theorem w_8055900f : (Jvm.Cond.methodLink "VerseCommittee$Reckoner" (52 : Nat) ({ cls := "VerseCommittee$People", name := "companyOf", desc := "(I)I" } : Jvm.MethodName)) ∈ BIG := tb_3 226 rfl rfl
set_option maxRecDepth 100000 in
theorem w_578689b7 : (Jvm.Cond.instanceMethod ({ cls := "VerseCommittee$People", name := "companyOf", desc := "(I)I" } : Jvm.MethodName)) ∈ BIG := tb_3 227 rfl rfl
set_option maxRecDepth 100000 in
theorem w_5796f0ec : (Jvm.Cond.selects "VerseCommittee$People" ({ cls := "VerseCommittee$People", name := "companyOf", desc := "(I)I" } : Jvm.MethodName) ({ cls := "VerseCommittee$People", name := "companyOf", desc := "(I)I" } : Jvm.MethodName)) ∈ BIG := tb_3 228 rfl rfl
set_option maxRecDepth 100000 in
theorem w_9a8fd219 : (Jvm.Cond.code ({ cls := "VerseCommittee$People", name := "companyOf", desc := "(I)I" } : Jvm.MethodName) prog_6_method_14_code (3 : Nat) (Option.some Jvm.ClassFile.FieldType.int)) ∈ BIG := tb_3 229 rfl rfl
set_option maxRecDepth 100000 in
theorem w_6489636a : (Jvm.Cond.methodLink "VerseCommittee$People" (41 : Nat) ({ cls := "VerseCommittee$People", name := "hasBook", desc := "(II)Z" } : Jvm.MethodName)) ∈ BIG := tb_3 230 rfl rfl
set_option maxRecDepth 100000 in
theorem w_91196155 : (Jvm.Cond.instanceMethod ({ cls := "VerseCommittee$People", name := "hasBook", desc := "(II)Z" } : Jvm.MethodName)) ∈ BIG := tb_3 231 rfl rfl
set_option maxRecDepth 100000 in
theorem w_42e74dac : (Jvm.Cond.selects "VerseCommittee$People" ({ cls := "VerseCommittee$People", name := "hasBook", desc := "(II)Z" } : Jvm.MethodName) ({ cls := "VerseCommittee$People", name := "hasBook", desc := "(II)Z" } : Jvm.MethodName)) ∈ BIG := tb_3 232 rfl rfl
set_option maxRecDepth 100000 in
theorem w_eddb54f8 : (Jvm.Cond.code ({ cls := "VerseCommittee$People", name := "hasBook", desc := "(II)Z" } : Jvm.MethodName) prog_6_method_12_code (3 : Nat) (Option.some Jvm.ClassFile.FieldType.boolean)) ∈ BIG := tb_3 233 rfl rfl
set_option maxRecDepth 100000 in
theorem w_43e85c44 : (Jvm.Cond.methodLink "VerseCommittee$Reckoner" (63 : Nat) ({ cls := "VerseCommittee$Laws", name := "size", desc := "()I" } : Jvm.MethodName)) ∈ BIG := tb_3 234 rfl rfl
set_option maxRecDepth 100000 in
theorem w_ded1ca4d : (Jvm.Cond.instanceMethod ({ cls := "VerseCommittee$Laws", name := "size", desc := "()I" } : Jvm.MethodName)) ∈ BIG := tb_3 235 rfl rfl
set_option maxRecDepth 100000 in
theorem w_3ea5d707 : (Jvm.Cond.selects "VerseCommittee$Laws" ({ cls := "VerseCommittee$Laws", name := "size", desc := "()I" } : Jvm.MethodName) ({ cls := "VerseCommittee$Laws", name := "size", desc := "()I" } : Jvm.MethodName)) ∈ BIG := tb_3 236 rfl rfl
set_option maxRecDepth 100000 in
theorem w_3b584ab8 : (Jvm.Cond.code ({ cls := "VerseCommittee$Laws", name := "size", desc := "()I" } : Jvm.MethodName) prog_4_method_2_code (1 : Nat) (Option.some Jvm.ClassFile.FieldType.int)) ∈ BIG := tb_3 237 rfl rfl
set_option maxRecDepth 100000 in
theorem w_3de26e63 : (Jvm.Cond.methodLink "VerseCommittee$Reckoner" (69 : Nat) ({ cls := "VerseCommittee$Laws", name := "binds", desc := "(III)Z" } : Jvm.MethodName)) ∈ BIG := tb_3 238 rfl rfl
set_option maxRecDepth 100000 in
theorem w_4120f9c7 : (Jvm.Cond.instanceMethod ({ cls := "VerseCommittee$Laws", name := "binds", desc := "(III)Z" } : Jvm.MethodName)) ∈ BIG := tb_3 239 rfl rfl
set_option maxRecDepth 100000 in
theorem w_b0f52924 : (Jvm.Cond.selects "VerseCommittee$Laws" ({ cls := "VerseCommittee$Laws", name := "binds", desc := "(III)Z" } : Jvm.MethodName) ({ cls := "VerseCommittee$Laws", name := "binds", desc := "(III)Z" } : Jvm.MethodName)) ∈ BIG := tb_4 0 rfl rfl
set_option maxRecDepth 100000 in
theorem w_3643ff9c : (Jvm.Cond.code ({ cls := "VerseCommittee$Laws", name := "binds", desc := "(III)Z" } : Jvm.MethodName) prog_4_method_13_code (4 : Nat) (Option.some Jvm.ClassFile.FieldType.boolean)) ∈ BIG := tb_4 1 rfl rfl
set_option maxRecDepth 100000 in
theorem w_91f52220 : (Jvm.Cond.methodLink "VerseCommittee$Reckoner" (73 : Nat) ({ cls := "VerseCommittee$Reckoner", name := "findCopy", desc := "()V" } : Jvm.MethodName)) ∈ BIG := tb_4 2 rfl rfl
set_option maxRecDepth 100000 in
theorem w_8a8cf266 : (Jvm.Cond.instanceMethod ({ cls := "VerseCommittee$Reckoner", name := "findCopy", desc := "()V" } : Jvm.MethodName)) ∈ BIG := tb_4 4 rfl rfl
set_option maxRecDepth 100000 in
theorem w_5aebf1e1 : (Jvm.Cond.code ({ cls := "VerseCommittee$Reckoner", name := "findCopy", desc := "()V" } : Jvm.MethodName) prog_8_method_10_code (5 : Nat) (Option.none : Option Jvm.ClassFile.FieldType)) ∈ BIG := tb_4 5 rfl rfl
set_option maxRecDepth 100000 in
theorem w_1e6153b5 : (Jvm.Cond.methodLink "VerseCommittee$Reckoner" (82 : Nat) ({ cls := "VerseCommittee$Reckoner", name := "lastInForce", desc := "(II)I" } : Jvm.MethodName)) ∈ BIG := tb_4 6 rfl rfl
set_option maxRecDepth 100000 in
theorem w_7c7616de : (Jvm.Cond.instanceMethod ({ cls := "VerseCommittee$Reckoner", name := "lastInForce", desc := "(II)I" } : Jvm.MethodName)) ∈ BIG := tb_4 8 rfl rfl
set_option maxRecDepth 100000 in
theorem w_14974880 : (Jvm.Cond.code ({ cls := "VerseCommittee$Reckoner", name := "lastInForce", desc := "(II)I" } : Jvm.MethodName) prog_8_method_11_code (6 : Nat) (Option.some Jvm.ClassFile.FieldType.int)) ∈ BIG := tb_4 9 rfl rfl
set_option maxRecDepth 100000 in
theorem w_fbeaf637 : (Jvm.Cond.methodLink "VerseCommittee$Reckoner" (114 : Nat) ({ cls := "VerseCommittee$Reckoner", name := "isInForce", desc := "(I)Z" } : Jvm.MethodName)) ∈ BIG := tb_4 10 rfl rfl
set_option maxRecDepth 100000 in
theorem w_4cd558bb : (Jvm.Cond.instanceMethod ({ cls := "VerseCommittee$Reckoner", name := "isInForce", desc := "(I)Z" } : Jvm.MethodName)) ∈ BIG := tb_4 11 rfl rfl
set_option maxRecDepth 100000 in
theorem w_b4f60e10 : (Jvm.Cond.selects "VerseCommittee$Reckoner" ({ cls := "VerseCommittee$Reckoner", name := "isInForce", desc := "(I)Z" } : Jvm.MethodName) ({ cls := "VerseCommittee$Reckoner", name := "isInForce", desc := "(I)Z" } : Jvm.MethodName)) ∈ BIG := tb_4 12 rfl rfl
set_option maxRecDepth 100000 in
theorem w_e8af895c : (Jvm.Cond.code ({ cls := "VerseCommittee$Reckoner", name := "isInForce", desc := "(I)Z" } : Jvm.MethodName) prog_8_method_3_code (2 : Nat) (Option.some Jvm.ClassFile.FieldType.boolean)) ∈ BIG := tb_4 13 rfl rfl
set_option maxRecDepth 100000 in
theorem w_c7aee157 : (Jvm.Cond.methodLink "VerseCommittee$Reckoner" (118 : Nat) ({ cls := "VerseCommittee$Laws", name := "clausesOf", desc := "(I)I" } : Jvm.MethodName)) ∈ BIG := tb_4 14 rfl rfl
set_option maxRecDepth 100000 in
theorem w_2536ff7d : (Jvm.Cond.methodLink "VerseCommittee$Reckoner" (121 : Nat) ({ cls := "VerseCommittee$Laws", name := "clauseOf", desc := "(II)I" } : Jvm.MethodName)) ∈ BIG := tb_4 15 rfl rfl
set_option maxRecDepth 100000 in
theorem w_74e3bb72 : (Jvm.Cond.methodLink "VerseCommittee$Reckoner" (124 : Nat) ({ cls := "VerseCommittee$Laws", name := "isOf", desc := "(II)Z" } : Jvm.MethodName)) ∈ BIG := tb_4 16 rfl rfl
set_option maxRecDepth 100000 in
theorem w_1757b628 : (Jvm.Cond.instanceMethod ({ cls := "VerseCommittee$Laws", name := "isOf", desc := "(II)Z" } : Jvm.MethodName)) ∈ BIG := tb_4 17 rfl rfl
set_option maxRecDepth 100000 in
theorem w_5dacf13f : (Jvm.Cond.selects "VerseCommittee$Laws" ({ cls := "VerseCommittee$Laws", name := "isOf", desc := "(II)Z" } : Jvm.MethodName) ({ cls := "VerseCommittee$Laws", name := "isOf", desc := "(II)Z" } : Jvm.MethodName)) ∈ BIG := tb_4 18 rfl rfl
set_option maxRecDepth 100000 in
theorem w_82d1eb58 : (Jvm.Cond.code ({ cls := "VerseCommittee$Laws", name := "isOf", desc := "(II)Z" } : Jvm.MethodName) prog_4_method_16_code (3 : Nat) (Option.some Jvm.ClassFile.FieldType.boolean)) ∈ BIG := tb_4 19 rfl rfl
set_option maxRecDepth 100000 in
theorem w_6be5063a : (Jvm.Cond.methodLink "VerseCommittee$Laws" (63 : Nat) ({ cls := "VerseCommittee$Laws", name := "isNumber", desc := "(I)Z" } : Jvm.MethodName)) ∈ BIG := tb_4 20 rfl rfl
set_option maxRecDepth 100000 in
theorem w_961e12f2 : (Jvm.Cond.static ({ cls := "VerseCommittee$Laws", name := "isNumber", desc := "(I)Z" } : Jvm.MethodName)) ∈ BIG := tb_4 21 rfl rfl
set_option maxRecDepth 100000 in
theorem w_fc927bb0 : (Jvm.Cond.code ({ cls := "VerseCommittee$Laws", name := "isNumber", desc := "(I)Z" } : Jvm.MethodName) prog_4_method_15_code (1 : Nat) (Option.some Jvm.ClassFile.FieldType.boolean)) ∈ BIG := tb_4 22 rfl rfl
set_option maxRecDepth 100000 in
theorem w_51e34c7e : (Jvm.Cond.methodLink "VerseCommittee$Reckoner" (128 : Nat) ({ cls := "VerseCommittee$Laws", name := "subject", desc := "(I)I" } : Jvm.MethodName)) ∈ BIG := tb_4 23 rfl rfl
set_option maxRecDepth 100000 in
theorem w_829daf4f : (Jvm.Cond.instanceMethod ({ cls := "VerseCommittee$Laws", name := "subject", desc := "(I)I" } : Jvm.MethodName)) ∈ BIG := tb_4 24 rfl rfl
set_option maxRecDepth 100000 in
theorem w_075dfab0 : (Jvm.Cond.selects "VerseCommittee$Laws" ({ cls := "VerseCommittee$Laws", name := "subject", desc := "(I)I" } : Jvm.MethodName) ({ cls := "VerseCommittee$Laws", name := "subject", desc := "(I)I" } : Jvm.MethodName)) ∈ BIG := tb_4 25 rfl rfl
set_option maxRecDepth 100000 in
theorem w_875ecd63 : (Jvm.Cond.code ({ cls := "VerseCommittee$Laws", name := "subject", desc := "(I)I" } : Jvm.MethodName) prog_4_method_17_code (2 : Nat) (Option.some Jvm.ClassFile.FieldType.int)) ∈ BIG := tb_4 26 rfl rfl
set_option maxRecDepth 100000 in
theorem w_79a96171 : (Jvm.Cond.methodLink "VerseCommittee$Reckoner" (86 : Nat) ({ cls := "VerseCommittee$Laws", name := "value", desc := "(I)I" } : Jvm.MethodName)) ∈ BIG := tb_4 27 rfl rfl
set_option maxRecDepth 100000 in
theorem w_f3e53d92 : (Jvm.Cond.instanceMethod ({ cls := "VerseCommittee$Laws", name := "value", desc := "(I)I" } : Jvm.MethodName)) ∈ BIG := tb_4 28 rfl rfl
set_option maxRecDepth 100000 in
theorem w_4303416e : (Jvm.Cond.selects "VerseCommittee$Laws" ({ cls := "VerseCommittee$Laws", name := "value", desc := "(I)I" } : Jvm.MethodName) ({ cls := "VerseCommittee$Laws", name := "value", desc := "(I)I" } : Jvm.MethodName)) ∈ BIG := tb_4 29 rfl rfl
set_option maxRecDepth 100000 in
theorem w_d9ac0630 : (Jvm.Cond.code ({ cls := "VerseCommittee$Laws", name := "value", desc := "(I)I" } : Jvm.MethodName) prog_4_method_18_code (2 : Nat) (Option.some Jvm.ClassFile.FieldType.int)) ∈ BIG := tb_4 30 rfl rfl
set_option maxRecDepth 100000 in
theorem w_4296368c : (Jvm.Cond.methodLink "VerseCommittee$Reckoner" (110 : Nat) ({ cls := "VerseCommittee$Verses", name := "rowOf", desc := "(II)[I" } : Jvm.MethodName)) ∈ BIG := tb_4 31 rfl rfl
set_option maxRecDepth 100000 in
theorem w_016b77ea : (Jvm.Cond.instanceMethod ({ cls := "VerseCommittee$Verses", name := "rowOf", desc := "(II)[I" } : Jvm.MethodName)) ∈ BIG := tb_4 32 rfl rfl
set_option maxRecDepth 100000 in
theorem w_25cab497 : (Jvm.Cond.selects "VerseCommittee$Verses" ({ cls := "VerseCommittee$Verses", name := "rowOf", desc := "(II)[I" } : Jvm.MethodName) ({ cls := "VerseCommittee$Verses", name := "rowOf", desc := "(II)[I" } : Jvm.MethodName)) ∈ BIG := tb_4 33 rfl rfl
set_option maxRecDepth 100000 in
theorem w_e21ea44b : (Jvm.Cond.code ({ cls := "VerseCommittee$Verses", name := "rowOf", desc := "(II)[I" } : Jvm.MethodName) prog_11_method_8_code (4 : Nat) (Option.some (Jvm.ClassFile.FieldType.array Jvm.ClassFile.FieldType.int))) ∈ BIG := tb_4 34 rfl rfl
set_option maxRecDepth 100000 in
theorem w_5a22dd80 : (Jvm.Cond.methodLink "VerseCommittee" (189 : Nat) ({ cls := "VerseCommittee$Laws", name := "clauseOf", desc := "(II)I" } : Jvm.MethodName)) ∈ BIG := tb_4 36 rfl rfl
set_option maxRecDepth 100000 in
theorem w_4257fb46 : (Jvm.Cond.methodLink "VerseCommittee" (192 : Nat) ({ cls := "VerseCommittee$Reckoner", name := "verdict", desc := "(I)I" } : Jvm.MethodName)) ∈ BIG := tb_4 37 rfl rfl
set_option maxRecDepth 100000 in
theorem w_57d97f93 : (Jvm.Cond.instanceMethod ({ cls := "VerseCommittee$Reckoner", name := "verdict", desc := "(I)I" } : Jvm.MethodName)) ∈ BIG := tb_4 38 rfl rfl
set_option maxRecDepth 100000 in
theorem w_18e39bee : (Jvm.Cond.selects "VerseCommittee$Reckoner" ({ cls := "VerseCommittee$Reckoner", name := "verdict", desc := "(I)I" } : Jvm.MethodName) ({ cls := "VerseCommittee$Reckoner", name := "verdict", desc := "(I)I" } : Jvm.MethodName)) ∈ BIG := tb_4 39 rfl rfl
set_option maxRecDepth 100000 in
theorem w_ca146cc8 : (Jvm.Cond.code ({ cls := "VerseCommittee$Reckoner", name := "verdict", desc := "(I)I" } : Jvm.MethodName) prog_8_method_9_code (4 : Nat) (Option.some Jvm.ClassFile.FieldType.int)) ∈ BIG := tb_4 40 rfl rfl
set_option maxRecDepth 100000 in
theorem w_24b8e395 : (Jvm.Cond.methodLink "VerseCommittee$Reckoner" (89 : Nat) ({ cls := "VerseCommittee$Laws", name := "start", desc := "(I)I" } : Jvm.MethodName)) ∈ BIG := tb_4 41 rfl rfl
set_option maxRecDepth 100000 in
theorem w_946f16b4 : (Jvm.Cond.instanceMethod ({ cls := "VerseCommittee$Laws", name := "start", desc := "(I)I" } : Jvm.MethodName)) ∈ BIG := tb_4 42 rfl rfl
set_option maxRecDepth 100000 in
theorem w_21eb59bd : (Jvm.Cond.selects "VerseCommittee$Laws" ({ cls := "VerseCommittee$Laws", name := "start", desc := "(I)I" } : Jvm.MethodName) ({ cls := "VerseCommittee$Laws", name := "start", desc := "(I)I" } : Jvm.MethodName)) ∈ BIG := tb_4 43 rfl rfl
set_option maxRecDepth 100000 in
theorem w_861f2821 : (Jvm.Cond.code ({ cls := "VerseCommittee$Laws", name := "start", desc := "(I)I" } : Jvm.MethodName) prog_4_method_19_code (2 : Nat) (Option.some Jvm.ClassFile.FieldType.int)) ∈ BIG := tb_4 44 rfl rfl
set_option maxRecDepth 100000 in
theorem w_37f345d4 : (Jvm.Cond.methodLink "VerseCommittee$Reckoner" (92 : Nat) ({ cls := "VerseCommittee$Laws", name := "rulesOf", desc := "(I)I" } : Jvm.MethodName)) ∈ BIG := tb_4 45 rfl rfl
set_option maxRecDepth 100000 in
theorem w_db0cac35 : (Jvm.Cond.static ({ cls := "VerseCommittee$Laws", name := "rulesOf", desc := "(I)I" } : Jvm.MethodName)) ∈ BIG := tb_4 46 rfl rfl
set_option maxRecDepth 100000 in
theorem w_e2a09206 : (Jvm.Cond.code ({ cls := "VerseCommittee$Laws", name := "rulesOf", desc := "(I)I" } : Jvm.MethodName) prog_4_method_5_code (1 : Nat) (Option.some Jvm.ClassFile.FieldType.int)) ∈ BIG := tb_4 47 rfl rfl
set_option maxRecDepth 100000 in
theorem w_b64d06ce : (Jvm.Cond.methodLink "VerseCommittee$Reckoner" (95 : Nat) ({ cls := "VerseCommittee$Laws", name := "textOf", desc := "(I)[I" } : Jvm.MethodName)) ∈ BIG := tb_4 48 rfl rfl
set_option maxRecDepth 100000 in
theorem w_d37c0102 : (Jvm.Cond.instanceMethod ({ cls := "VerseCommittee$Laws", name := "textOf", desc := "(I)[I" } : Jvm.MethodName)) ∈ BIG := tb_4 49 rfl rfl
set_option maxRecDepth 100000 in
theorem w_579f25d1 : (Jvm.Cond.selects "VerseCommittee$Laws" ({ cls := "VerseCommittee$Laws", name := "textOf", desc := "(I)[I" } : Jvm.MethodName) ({ cls := "VerseCommittee$Laws", name := "textOf", desc := "(I)[I" } : Jvm.MethodName)) ∈ BIG := tb_4 50 rfl rfl
set_option maxRecDepth 100000 in
theorem w_50b30010 : (Jvm.Cond.code ({ cls := "VerseCommittee$Laws", name := "textOf", desc := "(I)[I" } : Jvm.MethodName) prog_4_method_14_code (3 : Nat) (Option.some (Jvm.ClassFile.FieldType.array Jvm.ClassFile.FieldType.int))) ∈ BIG := tb_4 51 rfl rfl
set_option maxRecDepth 100000 in
theorem w_973434af : (Jvm.Cond.methodLink "VerseCommittee$Reckoner" (106 : Nat) ({ cls := "VerseCommittee$Reckoner", name := "reckonCondition", desc := "(ZI)Z" } : Jvm.MethodName)) ∈ BIG := tb_4 53 rfl rfl
set_option maxRecDepth 100000 in
theorem w_4ef1143d : (Jvm.Cond.instanceMethod ({ cls := "VerseCommittee$Reckoner", name := "reckonCondition", desc := "(ZI)Z" } : Jvm.MethodName)) ∈ BIG := tb_4 55 rfl rfl
set_option maxRecDepth 100000 in
theorem w_76257ce5 : (Jvm.Cond.code ({ cls := "VerseCommittee$Reckoner", name := "reckonCondition", desc := "(ZI)Z" } : Jvm.MethodName) prog_8_method_13_code (6 : Nat) (Option.some Jvm.ClassFile.FieldType.boolean)) ∈ BIG := tb_4 56 rfl rfl
set_option maxRecDepth 100000 in
theorem w_26699c3c : (Jvm.Cond.methodLink "VerseCommittee$Reckoner" (131 : Nat) ({ cls := "VerseCommittee$Reckoner", name := "reckonPart", desc := "(ZI)Z" } : Jvm.MethodName)) ∈ BIG := tb_4 57 rfl rfl
set_option maxRecDepth 100000 in
theorem w_7b6c2564 : (Jvm.Cond.instanceMethod ({ cls := "VerseCommittee$Reckoner", name := "reckonPart", desc := "(ZI)Z" } : Jvm.MethodName)) ∈ BIG := tb_4 59 rfl rfl
set_option maxRecDepth 100000 in
theorem w_507629e2 : (Jvm.Cond.code ({ cls := "VerseCommittee$Reckoner", name := "reckonPart", desc := "(ZI)Z" } : Jvm.MethodName) prog_8_method_14_code (6 : Nat) (Option.some Jvm.ClassFile.FieldType.boolean)) ∈ BIG := tb_4 60 rfl rfl
set_option maxRecDepth 100000 in
theorem w_25873177 : (Jvm.Cond.methodLink "VerseCommittee$Reckoner" (137 : Nat) ({ cls := "VerseCommittee$Reckoner", name := "reckonPiece", desc := "(ZI)Z" } : Jvm.MethodName)) ∈ BIG := tb_4 61 rfl rfl
set_option maxRecDepth 100000 in
theorem w_5e4a9718 : (Jvm.Cond.instanceMethod ({ cls := "VerseCommittee$Reckoner", name := "reckonPiece", desc := "(ZI)Z" } : Jvm.MethodName)) ∈ BIG := tb_4 63 rfl rfl
set_option maxRecDepth 100000 in
theorem w_3228a3b7 : (Jvm.Cond.code ({ cls := "VerseCommittee$Reckoner", name := "reckonPiece", desc := "(ZI)Z" } : Jvm.MethodName) prog_8_method_15_code (6 : Nat) (Option.some Jvm.ClassFile.FieldType.boolean)) ∈ BIG := tb_4 64 rfl rfl
set_option maxRecDepth 100000 in
theorem w_87dc6301 : (Jvm.Cond.methodLink "VerseCommittee$Reckoner" (134 : Nat) ({ cls := "VerseCommittee$Reckoner", name := "sign", desc := "()I" } : Jvm.MethodName)) ∈ BIG := tb_4 65 rfl rfl
set_option maxRecDepth 100000 in
theorem w_2726535e : (Jvm.Cond.instanceMethod ({ cls := "VerseCommittee$Reckoner", name := "sign", desc := "()I" } : Jvm.MethodName)) ∈ BIG := tb_4 67 rfl rfl
set_option maxRecDepth 100000 in
theorem w_ad9f0f82 : (Jvm.Cond.code ({ cls := "VerseCommittee$Reckoner", name := "sign", desc := "()I" } : Jvm.MethodName) prog_8_method_12_code (1 : Nat) (Option.some Jvm.ClassFile.FieldType.int)) ∈ BIG := tb_4 68 rfl rfl
set_option maxRecDepth 100000 in
theorem w_f6f85c8e : (Jvm.Cond.methodLink "VerseCommittee$Reckoner" (140 : Nat) ({ cls := "VerseCommittee$Reckoner", name := "reckonSum", desc := "(ZI)I" } : Jvm.MethodName)) ∈ BIG := tb_4 69 rfl rfl
set_option maxRecDepth 100000 in
theorem w_72a913df : (Jvm.Cond.instanceMethod ({ cls := "VerseCommittee$Reckoner", name := "reckonSum", desc := "(ZI)I" } : Jvm.MethodName)) ∈ BIG := tb_4 71 rfl rfl
set_option maxRecDepth 100000 in
theorem w_c5634496 : (Jvm.Cond.code ({ cls := "VerseCommittee$Reckoner", name := "reckonSum", desc := "(ZI)I" } : Jvm.MethodName) prog_8_method_16_code (7 : Nat) (Option.some Jvm.ClassFile.FieldType.int)) ∈ BIG := tb_4 72 rfl rfl
set_option maxRecDepth 100000 in
theorem w_8122d3b2 : (Jvm.Cond.methodLink "VerseCommittee$Reckoner" (144 : Nat) ({ cls := "VerseCommittee$Reckoner", name := "reckonTerm", desc := "(ZI)I" } : Jvm.MethodName)) ∈ BIG := tb_4 73 rfl rfl
set_option maxRecDepth 100000 in
theorem w_b2188751 : (Jvm.Cond.instanceMethod ({ cls := "VerseCommittee$Reckoner", name := "reckonTerm", desc := "(ZI)I" } : Jvm.MethodName)) ∈ BIG := tb_4 75 rfl rfl
set_option maxRecDepth 100000 in
theorem w_09e6cbe1 : (Jvm.Cond.code ({ cls := "VerseCommittee$Reckoner", name := "reckonTerm", desc := "(ZI)I" } : Jvm.MethodName) prog_8_method_17_code (7 : Nat) (Option.some Jvm.ClassFile.FieldType.int)) ∈ BIG := tb_4 76 rfl rfl
set_option maxRecDepth 100000 in
theorem w_8d7cceba : (Jvm.Cond.methodLink "VerseCommittee$Reckoner" (147 : Nat) ({ cls := "VerseCommittee$Reckoner", name := "reckonFactor", desc := "(ZI)I" } : Jvm.MethodName)) ∈ BIG := tb_4 77 rfl rfl
set_option maxRecDepth 100000 in
theorem w_fbd9793e : (Jvm.Cond.instanceMethod ({ cls := "VerseCommittee$Reckoner", name := "reckonFactor", desc := "(ZI)I" } : Jvm.MethodName)) ∈ BIG := tb_4 79 rfl rfl
set_option maxRecDepth 100000 in
theorem w_93bdf145 : (Jvm.Cond.code ({ cls := "VerseCommittee$Reckoner", name := "reckonFactor", desc := "(ZI)I" } : Jvm.MethodName) prog_8_method_19_code (4 : Nat) (Option.some Jvm.ClassFile.FieldType.int)) ∈ BIG := tb_4 80 rfl rfl
set_option maxRecDepth 100000 in
theorem w_169c6928 : (Jvm.Cond.methodLink "VerseCommittee$Reckoner" (153 : Nat) ({ cls := "VerseCommittee$Reckoner", name := "isDigit", desc := "(I)Z" } : Jvm.MethodName)) ∈ BIG := tb_4 81 rfl rfl
set_option maxRecDepth 100000 in
theorem w_15b737aa : (Jvm.Cond.static ({ cls := "VerseCommittee$Reckoner", name := "isDigit", desc := "(I)Z" } : Jvm.MethodName)) ∈ BIG := tb_4 82 rfl rfl
set_option maxRecDepth 100000 in
theorem w_f3e30e8a : (Jvm.Cond.code ({ cls := "VerseCommittee$Reckoner", name := "isDigit", desc := "(I)Z" } : Jvm.MethodName) prog_8_method_20_code (1 : Nat) (Option.some Jvm.ClassFile.FieldType.boolean)) ∈ BIG := tb_4 83 rfl rfl
set_option maxRecDepth 100000 in
theorem w_d3b6846f : (Jvm.Cond.methodLink "VerseCommittee$Reckoner" (156 : Nat) ({ cls := "VerseCommittee$Reckoner", name := "numberThere", desc := "()I" } : Jvm.MethodName)) ∈ BIG := tb_4 84 rfl rfl
set_option maxRecDepth 100000 in
theorem w_d9631ddd : (Jvm.Cond.instanceMethod ({ cls := "VerseCommittee$Reckoner", name := "numberThere", desc := "()I" } : Jvm.MethodName)) ∈ BIG := tb_4 86 rfl rfl
set_option maxRecDepth 100000 in
theorem w_5563c4b6 : (Jvm.Cond.code ({ cls := "VerseCommittee$Reckoner", name := "numberThere", desc := "()I" } : Jvm.MethodName) prog_8_method_21_code (3 : Nat) (Option.some Jvm.ClassFile.FieldType.int)) ∈ BIG := tb_4 87 rfl rfl
set_option maxRecDepth 100000 in
theorem w_c224371c : (Jvm.Cond.methodLink "VerseCommittee$Reckoner" (159 : Nat) ({ cls := "VerseCommittee$Reckoner", name := "letterValue", desc := "(I)I" } : Jvm.MethodName)) ∈ BIG := tb_4 88 rfl rfl
set_option maxRecDepth 100000 in
theorem w_2ed11c39 : (Jvm.Cond.instanceMethod ({ cls := "VerseCommittee$Reckoner", name := "letterValue", desc := "(I)I" } : Jvm.MethodName)) ∈ BIG := tb_4 90 rfl rfl
set_option maxRecDepth 100000 in
theorem w_95d34878 : (Jvm.Cond.code ({ cls := "VerseCommittee$Reckoner", name := "letterValue", desc := "(I)I" } : Jvm.MethodName) prog_8_method_22_code (2 : Nat) (Option.some Jvm.ClassFile.FieldType.int)) ∈ BIG := tb_4 91 rfl rfl
set_option maxRecDepth 100000 in
theorem w_9d0cd1f7 : (Jvm.Cond.methodLink "VerseCommittee$Reckoner" (150 : Nat) ({ cls := "VerseCommittee$Reckoner", name := "isTermSign", desc := "(I)Z" } : Jvm.MethodName)) ∈ BIG := tb_4 92 rfl rfl
set_option maxRecDepth 100000 in
theorem w_d59a5eb0 : (Jvm.Cond.static ({ cls := "VerseCommittee$Reckoner", name := "isTermSign", desc := "(I)Z" } : Jvm.MethodName)) ∈ BIG := tb_4 93 rfl rfl
set_option maxRecDepth 100000 in
theorem w_023a0e9d : (Jvm.Cond.code ({ cls := "VerseCommittee$Reckoner", name := "isTermSign", desc := "(I)Z" } : Jvm.MethodName) prog_8_method_18_code (1 : Nat) (Option.some Jvm.ClassFile.FieldType.boolean)) ∈ BIG := tb_4 94 rfl rfl
set_option maxRecDepth 100000 in
theorem w_ebe778c0 : (Jvm.Cond.methodLink "VerseCommitteeLaw" (68 : Nat) ({ cls := "VerseCommittee", name := "asks", desc := "(III)I" } : Jvm.MethodName)) ∈ BIG := tb_4 95 rfl rfl
set_option maxRecDepth 100000 in
theorem w_c5726422 : (Jvm.Cond.instanceMethod ({ cls := "VerseCommittee", name := "asks", desc := "(III)I" } : Jvm.MethodName)) ∈ BIG := tb_4 96 rfl rfl
set_option maxRecDepth 100000 in
theorem w_e87c452e : (Jvm.Cond.selects "VerseCommittee" ({ cls := "VerseCommittee", name := "asks", desc := "(III)I" } : Jvm.MethodName) ({ cls := "VerseCommittee", name := "asks", desc := "(III)I" } : Jvm.MethodName)) ∈ BIG := tb_4 97 rfl rfl
set_option maxRecDepth 100000 in
theorem w_e73a2ecf : (Jvm.Cond.code ({ cls := "VerseCommittee", name := "asks", desc := "(III)I" } : Jvm.MethodName) prog_1_method_14_code (4 : Nat) (Option.some Jvm.ClassFile.FieldType.int)) ∈ BIG := tb_4 98 rfl rfl
set_option maxRecDepth 100000 in
theorem w_f673be94 : (Jvm.Cond.methodLink "VerseCommittee" (195 : Nat) ({ cls := "VerseCommittee$Reckoner", name := "hundredths", desc := "(I)I" } : Jvm.MethodName)) ∈ BIG := tb_4 99 rfl rfl
set_option maxRecDepth 100000 in
theorem w_121677c7 : (Jvm.Cond.instanceMethod ({ cls := "VerseCommittee$Reckoner", name := "hundredths", desc := "(I)I" } : Jvm.MethodName)) ∈ BIG := tb_4 100 rfl rfl
set_option maxRecDepth 100000 in
theorem w_155838bb : (Jvm.Cond.selects "VerseCommittee$Reckoner" ({ cls := "VerseCommittee$Reckoner", name := "hundredths", desc := "(I)I" } : Jvm.MethodName) ({ cls := "VerseCommittee$Reckoner", name := "hundredths", desc := "(I)I" } : Jvm.MethodName)) ∈ BIG := tb_4 101 rfl rfl
set_option maxRecDepth 100000 in
theorem w_98ff4964 : (Jvm.Cond.code ({ cls := "VerseCommittee$Reckoner", name := "hundredths", desc := "(I)I" } : Jvm.MethodName) prog_8_method_7_code (3 : Nat) (Option.some Jvm.ClassFile.FieldType.int)) ∈ BIG := tb_4 102 rfl rfl
set_option maxRecDepth 100000 in
theorem w_a4eb44e5 : (Jvm.Cond.methodLink "VerseCommittee" (198 : Nat) ({ cls := "VerseCommittee$Reckoner", name := "restDays", desc := "()I" } : Jvm.MethodName)) ∈ BIG := tb_4 103 rfl rfl
set_option maxRecDepth 100000 in
theorem w_021f93d7 : (Jvm.Cond.instanceMethod ({ cls := "VerseCommittee$Reckoner", name := "restDays", desc := "()I" } : Jvm.MethodName)) ∈ BIG := tb_4 104 rfl rfl
set_option maxRecDepth 100000 in
theorem w_c78f23e0 : (Jvm.Cond.selects "VerseCommittee$Reckoner" ({ cls := "VerseCommittee$Reckoner", name := "restDays", desc := "()I" } : Jvm.MethodName) ({ cls := "VerseCommittee$Reckoner", name := "restDays", desc := "()I" } : Jvm.MethodName)) ∈ BIG := tb_4 105 rfl rfl
set_option maxRecDepth 100000 in
theorem w_efe21e61 : (Jvm.Cond.code ({ cls := "VerseCommittee$Reckoner", name := "restDays", desc := "()I" } : Jvm.MethodName) prog_8_method_8_code (2 : Nat) (Option.some Jvm.ClassFile.FieldType.int)) ∈ BIG := tb_4 106 rfl rfl
set_option maxRecDepth 100000 in
theorem w_a3278322 : (Jvm.Cond.methodLink "VerseCommittee" (201 : Nat) ({ cls := "VerseCommittee$Reckoner", name := "firstCopy", desc := "()I" } : Jvm.MethodName)) ∈ BIG := tb_4 107 rfl rfl
set_option maxRecDepth 100000 in
theorem w_733f5130 : (Jvm.Cond.instanceMethod ({ cls := "VerseCommittee$Reckoner", name := "firstCopy", desc := "()I" } : Jvm.MethodName)) ∈ BIG := tb_4 108 rfl rfl
set_option maxRecDepth 100000 in
theorem w_c5fd2228 : (Jvm.Cond.selects "VerseCommittee$Reckoner" ({ cls := "VerseCommittee$Reckoner", name := "firstCopy", desc := "()I" } : Jvm.MethodName) ({ cls := "VerseCommittee$Reckoner", name := "firstCopy", desc := "()I" } : Jvm.MethodName)) ∈ BIG := tb_4 109 rfl rfl
set_option maxRecDepth 100000 in
theorem w_dad8f511 : (Jvm.Cond.code ({ cls := "VerseCommittee$Reckoner", name := "firstCopy", desc := "()I" } : Jvm.MethodName) prog_8_method_5_code (1 : Nat) (Option.some Jvm.ClassFile.FieldType.int)) ∈ BIG := tb_4 110 rfl rfl
set_option maxRecDepth 100000 in
theorem w_7390092d : (Jvm.Cond.methodLink "VerseCommittee" (204 : Nat) ({ cls := "VerseCommittee$Reckoner", name := "sourceSize", desc := "()I" } : Jvm.MethodName)) ∈ BIG := tb_4 111 rfl rfl
set_option maxRecDepth 100000 in
theorem w_dda160bb : (Jvm.Cond.instanceMethod ({ cls := "VerseCommittee$Reckoner", name := "sourceSize", desc := "()I" } : Jvm.MethodName)) ∈ BIG := tb_4 112 rfl rfl
set_option maxRecDepth 100000 in
theorem w_ba95bb5d : (Jvm.Cond.selects "VerseCommittee$Reckoner" ({ cls := "VerseCommittee$Reckoner", name := "sourceSize", desc := "()I" } : Jvm.MethodName) ({ cls := "VerseCommittee$Reckoner", name := "sourceSize", desc := "()I" } : Jvm.MethodName)) ∈ BIG := tb_4 113 rfl rfl
set_option maxRecDepth 100000 in
theorem w_78b99046 : (Jvm.Cond.code ({ cls := "VerseCommittee$Reckoner", name := "sourceSize", desc := "()I" } : Jvm.MethodName) prog_8_method_6_code (1 : Nat) (Option.some Jvm.ClassFile.FieldType.int)) ∈ BIG := tb_4 114 rfl rfl
set_option maxRecDepth 100000 in
theorem w_f7d3cf4b : (Jvm.Cond.methodLink "VerseCommittee" (207 : Nat) ({ cls := "VerseCommittee$Reckoner", name := "companyThere", desc := "()I" } : Jvm.MethodName)) ∈ BIG := tb_4 115 rfl rfl
set_option maxRecDepth 100000 in
theorem w_9d6d98d0 : (Jvm.Cond.instanceMethod ({ cls := "VerseCommittee$Reckoner", name := "companyThere", desc := "()I" } : Jvm.MethodName)) ∈ BIG := tb_4 116 rfl rfl
set_option maxRecDepth 100000 in
theorem w_0b05f1ae : (Jvm.Cond.selects "VerseCommittee$Reckoner" ({ cls := "VerseCommittee$Reckoner", name := "companyThere", desc := "()I" } : Jvm.MethodName) ({ cls := "VerseCommittee$Reckoner", name := "companyThere", desc := "()I" } : Jvm.MethodName)) ∈ BIG := tb_4 117 rfl rfl
set_option maxRecDepth 100000 in
theorem w_de959cdc : (Jvm.Cond.code ({ cls := "VerseCommittee$Reckoner", name := "companyThere", desc := "()I" } : Jvm.MethodName) prog_8_method_4_code (1 : Nat) (Option.some Jvm.ClassFile.FieldType.int)) ∈ BIG := tb_4 118 rfl rfl
set_option maxRecDepth 100000 in
theorem w_cb4d0ad9 : (Jvm.Cond.methodLink "VerseCommitteeLaw" (73 : Nat) ({ cls := "VerseCommittee", name := "token", desc := "(III)I" } : Jvm.MethodName)) ∈ BIG := tb_4 119 rfl rfl
set_option maxRecDepth 100000 in
theorem w_c842f068 : (Jvm.Cond.instanceMethod ({ cls := "VerseCommittee", name := "token", desc := "(III)I" } : Jvm.MethodName)) ∈ BIG := tb_4 120 rfl rfl
set_option maxRecDepth 100000 in
theorem w_f15dce18 : (Jvm.Cond.selects "VerseCommittee" ({ cls := "VerseCommittee", name := "token", desc := "(III)I" } : Jvm.MethodName) ({ cls := "VerseCommittee", name := "token", desc := "(III)I" } : Jvm.MethodName)) ∈ BIG := tb_4 121 rfl rfl
set_option maxRecDepth 100000 in
theorem w_97afe92a : (Jvm.Cond.code ({ cls := "VerseCommittee", name := "token", desc := "(III)I" } : Jvm.MethodName) prog_1_method_15_code (5 : Nat) (Option.some Jvm.ClassFile.FieldType.int)) ∈ BIG := tb_4 122 rfl rfl
set_option maxRecDepth 100000 in
theorem w_17684cc9 : (Jvm.Cond.methodLink "VerseCommittee" (210 : Nat) ({ cls := "VerseCommittee$Verses", name := "rowOf", desc := "(II)[I" } : Jvm.MethodName)) ∈ BIG := tb_4 123 rfl rfl
set_option maxRecDepth 100000 in
theorem w_068ae804 : (Jvm.Cond.methodLink "VerseCommitteeLaw" (77 : Nat) ({ cls := "VerseCommittee", name := "differ", desc := "(III)I" } : Jvm.MethodName)) ∈ BIG := tb_4 124 rfl rfl
set_option maxRecDepth 100000 in
theorem w_9f8f3618 : (Jvm.Cond.instanceMethod ({ cls := "VerseCommittee", name := "differ", desc := "(III)I" } : Jvm.MethodName)) ∈ BIG := tb_4 125 rfl rfl
set_option maxRecDepth 100000 in
theorem w_037b88e0 : (Jvm.Cond.selects "VerseCommittee" ({ cls := "VerseCommittee", name := "differ", desc := "(III)I" } : Jvm.MethodName) ({ cls := "VerseCommittee", name := "differ", desc := "(III)I" } : Jvm.MethodName)) ∈ BIG := tb_4 126 rfl rfl
set_option maxRecDepth 100000 in
theorem w_a28708c6 : (Jvm.Cond.code ({ cls := "VerseCommittee", name := "differ", desc := "(III)I" } : Jvm.MethodName) prog_1_method_16_code (6 : Nat) (Option.some Jvm.ClassFile.FieldType.int)) ∈ BIG := tb_4 127 rfl rfl
set_option maxRecDepth 100000 in
theorem w_026501e4 : (Jvm.Cond.methodLink "VerseCommittee" (214 : Nat) ({ cls := "VerseCommittee", name := "distance", desc := "([I[I)I" } : Jvm.MethodName)) ∈ BIG := tb_4 128 rfl rfl
set_option maxRecDepth 100000 in
theorem w_aefa3b87 : (Jvm.Cond.instanceMethod ({ cls := "VerseCommittee", name := "distance", desc := "([I[I)I" } : Jvm.MethodName)) ∈ BIG := tb_4 130 rfl rfl
set_option maxRecDepth 100000 in
theorem w_bda81c80 : (Jvm.Cond.code ({ cls := "VerseCommittee", name := "distance", desc := "([I[I)I" } : Jvm.MethodName) prog_1_method_57_code (8 : Nat) (Option.some Jvm.ClassFile.FieldType.int)) ∈ BIG := tb_4 131 rfl rfl
set_option maxRecDepth 100000 in
theorem w_31a845fd : (Jvm.Cond.methodLink "VerseCommittee" (417 : Nat) ({ cls := "java/lang/Math", name := "min", desc := "(II)I" } : Jvm.MethodName)) ∈ BIG := tb_4 132 rfl rfl
set_option maxRecDepth 100000 in
theorem w_932ca89b : (Jvm.Cond.methodLink "VerseCommitteeLaw" (81 : Nat) ({ cls := "VerseCommittee", name := "render", desc := "(III)I" } : Jvm.MethodName)) ∈ BIG := tb_4 133 rfl rfl
set_option maxRecDepth 100000 in
theorem w_a396485a : (Jvm.Cond.instanceMethod ({ cls := "VerseCommittee", name := "render", desc := "(III)I" } : Jvm.MethodName)) ∈ BIG := tb_4 134 rfl rfl
set_option maxRecDepth 100000 in
theorem w_6fa4f8f0 : (Jvm.Cond.selects "VerseCommittee" ({ cls := "VerseCommittee", name := "render", desc := "(III)I" } : Jvm.MethodName) ({ cls := "VerseCommittee", name := "render", desc := "(III)I" } : Jvm.MethodName)) ∈ BIG := tb_4 135 rfl rfl
set_option maxRecDepth 100000 in
theorem w_6f97fd5b : (Jvm.Cond.code ({ cls := "VerseCommittee", name := "render", desc := "(III)I" } : Jvm.MethodName) prog_1_method_17_code (6 : Nat) (Option.some Jvm.ClassFile.FieldType.int)) ∈ BIG := tb_4 136 rfl rfl
set_option maxRecDepth 100000 in
theorem w_d8871c6a : (Jvm.Cond.methodLink "VerseCommittee" (218 : Nat) ({ cls := "VerseCommittee$People", name := "hasScholar", desc := "(I)Z" } : Jvm.MethodName)) ∈ BIG := tb_4 137 rfl rfl
set_option maxRecDepth 100000 in
theorem w_a1c9f63d : (Jvm.Cond.instanceMethod ({ cls := "VerseCommittee$People", name := "hasScholar", desc := "(I)Z" } : Jvm.MethodName)) ∈ BIG := tb_4 138 rfl rfl
set_option maxRecDepth 100000 in
theorem w_a7852b45 : (Jvm.Cond.selects "VerseCommittee$People" ({ cls := "VerseCommittee$People", name := "hasScholar", desc := "(I)Z" } : Jvm.MethodName) ({ cls := "VerseCommittee$People", name := "hasScholar", desc := "(I)Z" } : Jvm.MethodName)) ∈ BIG := tb_4 139 rfl rfl
set_option maxRecDepth 100000 in
theorem w_632fd751 : (Jvm.Cond.code ({ cls := "VerseCommittee$People", name := "hasScholar", desc := "(I)Z" } : Jvm.MethodName) prog_6_method_5_code (2 : Nat) (Option.some Jvm.ClassFile.FieldType.boolean)) ∈ BIG := tb_4 140 rfl rfl
set_option maxRecDepth 100000 in
theorem w_07fa92f1 : (Jvm.Cond.methodLink "VerseCommittee" (221 : Nat) ({ cls := "VerseCommittee$People", name := "isVoid", desc := "(I)Z" } : Jvm.MethodName)) ∈ BIG := tb_4 141 rfl rfl
set_option maxRecDepth 100000 in
theorem w_24fbca9b : (Jvm.Cond.instanceMethod ({ cls := "VerseCommittee$People", name := "isVoid", desc := "(I)Z" } : Jvm.MethodName)) ∈ BIG := tb_4 142 rfl rfl
set_option maxRecDepth 100000 in
theorem w_b08ccbe3 : (Jvm.Cond.selects "VerseCommittee$People" ({ cls := "VerseCommittee$People", name := "isVoid", desc := "(I)Z" } : Jvm.MethodName) ({ cls := "VerseCommittee$People", name := "isVoid", desc := "(I)Z" } : Jvm.MethodName)) ∈ BIG := tb_4 143 rfl rfl
set_option maxRecDepth 100000 in
theorem w_c92d345e : (Jvm.Cond.code ({ cls := "VerseCommittee$People", name := "isVoid", desc := "(I)Z" } : Jvm.MethodName) prog_6_method_10_code (2 : Nat) (Option.some Jvm.ClassFile.FieldType.boolean)) ∈ BIG := tb_4 144 rfl rfl
set_option maxRecDepth 100000 in
theorem w_8b247892 : (Jvm.Cond.methodLink "VerseCommittee" (224 : Nat) ({ cls := "VerseCommittee$Shelf", name := "isFull", desc := "()Z" } : Jvm.MethodName)) ∈ BIG := tb_4 145 rfl rfl
set_option maxRecDepth 100000 in
theorem w_de54c247 : (Jvm.Cond.instanceMethod ({ cls := "VerseCommittee$Shelf", name := "isFull", desc := "()Z" } : Jvm.MethodName)) ∈ BIG := tb_4 146 rfl rfl
set_option maxRecDepth 100000 in
theorem w_e15c20c7 : (Jvm.Cond.selects "VerseCommittee$Shelf" ({ cls := "VerseCommittee$Shelf", name := "isFull", desc := "()Z" } : Jvm.MethodName) ({ cls := "VerseCommittee$Shelf", name := "isFull", desc := "()Z" } : Jvm.MethodName)) ∈ BIG := tb_4 147 rfl rfl
set_option maxRecDepth 100000 in
theorem w_a9d42322 : (Jvm.Cond.code ({ cls := "VerseCommittee$Shelf", name := "isFull", desc := "()Z" } : Jvm.MethodName) prog_10_method_3_code (1 : Nat) (Option.some Jvm.ClassFile.FieldType.boolean)) ∈ BIG := tb_4 148 rfl rfl
set_option maxRecDepth 100000 in
theorem w_77a93df7 : (Jvm.Cond.methodLink "VerseCommittee" (225 : Nat) ({ cls := "VerseCommittee", name := "tapeHasSlots", desc := "(II)Z" } : Jvm.MethodName)) ∈ BIG := tb_4 149 rfl rfl
set_option maxRecDepth 100000 in
theorem w_ac50c1e2 : (Jvm.Cond.instanceMethod ({ cls := "VerseCommittee", name := "tapeHasSlots", desc := "(II)Z" } : Jvm.MethodName)) ∈ BIG := tb_4 151 rfl rfl
set_option maxRecDepth 100000 in
theorem w_7085ee7b : (Jvm.Cond.code ({ cls := "VerseCommittee", name := "tapeHasSlots", desc := "(II)Z" } : Jvm.MethodName) prog_1_method_51_code (5 : Nat) (Option.some Jvm.ClassFile.FieldType.boolean)) ∈ BIG := tb_4 152 rfl rfl
set_option maxRecDepth 100000 in
theorem w_ef4510ec : (Jvm.Cond.methodLink "VerseCommittee" (230 : Nat) ({ cls := "VerseCommittee$Rendering", name := "<init>", desc := "(III[II)V" } : Jvm.MethodName)) ∈ BIG := tb_4 155 rfl rfl
set_option maxRecDepth 100000 in
theorem w_577cd970 : (Jvm.Cond.instanceMethod ({ cls := "VerseCommittee$Rendering", name := "<init>", desc := "(III[II)V" } : Jvm.MethodName)) ∈ BIG := tb_4 156 rfl rfl
set_option maxRecDepth 100000 in
theorem w_8f0a8f02 : (Jvm.Cond.code ({ cls := "VerseCommittee$Rendering", name := "<init>", desc := "(III[II)V" } : Jvm.MethodName) prog_9_method_1_code (6 : Nat) (Option.none : Option Jvm.ClassFile.FieldType)) ∈ BIG := tb_4 157 rfl rfl
set_option maxRecDepth 100000 in
theorem w_bfada3a0 : (Jvm.Cond.methodLink "VerseCommittee$Rendering" (3 : Nat) ({ cls := "java/lang/Object", name := "<init>", desc := "()V" } : Jvm.MethodName)) ∈ BIG := tb_4 158 rfl rfl
set_option maxRecDepth 100000 in
theorem w_0e8f1c5f : (Jvm.Cond.fieldLink "VerseCommittee$Rendering" (43 : Nat) "VerseCommittee$Rendering" "scholar" "I") ∈ BIG := tb_4 160 rfl rfl
set_option maxRecDepth 100000 in
theorem w_1bfa5204 : (Jvm.Cond.fieldLink "VerseCommittee$Rendering" (46 : Nat) "VerseCommittee$Rendering" "verse" "I") ∈ BIG := tb_4 161 rfl rfl
set_option maxRecDepth 100000 in
theorem w_ef3770f1 : (Jvm.Cond.fieldLink "VerseCommittee$Rendering" (49 : Nat) "VerseCommittee$Rendering" "copy" "I") ∈ BIG := tb_4 162 rfl rfl
set_option maxRecDepth 100000 in
theorem w_bbbc7c29 : (Jvm.Cond.fieldLink "VerseCommittee$Rendering" (52 : Nat) "VerseCommittee$Rendering" "tokens" "[I") ∈ BIG := tb_4 163 rfl rfl
set_option maxRecDepth 100000 in
theorem w_2eeeed47 : (Jvm.Cond.fieldLink "VerseCommittee$Rendering" (13 : Nat) "VerseCommittee$Rendering" "words" "[I") ∈ BIG := tb_4 164 rfl rfl
set_option maxRecDepth 100000 in
theorem w_a52c26af : (Jvm.Cond.fieldLink "VerseCommittee$Rendering" (18 : Nat) "VerseCommittee$Rendering" "turns" "[I") ∈ BIG := tb_4 165 rfl rfl
set_option maxRecDepth 100000 in
theorem w_ca0423f5 : (Jvm.Cond.fieldLink "VerseCommittee$Rendering" (55 : Nat) "VerseCommittee$Rendering" "madeDay" "I") ∈ BIG := tb_4 166 rfl rfl
set_option maxRecDepth 100000 in
theorem w_4a95ce7c : (Jvm.Cond.fieldLink "VerseCommittee$Rendering" (21 : Nat) "VerseCommittee$Rendering" "state" "I") ∈ BIG := tb_4 167 rfl rfl
set_option maxRecDepth 100000 in
theorem w_c1f233ea : (Jvm.Cond.fieldLink "VerseCommittee$Rendering" (25 : Nat) "VerseCommittee$Rendering" "fixedDay" "I") ∈ BIG := tb_4 168 rfl rfl
set_option maxRecDepth 100000 in
theorem w_23b84e28 : (Jvm.Cond.fieldLink "VerseCommittee$Rendering" (28 : Nat) "VerseCommittee$Rendering" "cast" "[I") ∈ BIG := tb_4 169 rfl rfl
set_option maxRecDepth 100000 in
theorem w_3cbccbb6 : (Jvm.Cond.fieldLink "VerseCommittee$Rendering" (31 : Nat) "VerseCommittee$Rendering" "yes" "[I") ∈ BIG := tb_4 170 rfl rfl
set_option maxRecDepth 100000 in
theorem w_b4950596 : (Jvm.Cond.fieldLink "VerseCommittee$Rendering" (34 : Nat) "VerseCommittee$Rendering" "keptYes" "[I") ∈ BIG := tb_4 171 rfl rfl
set_option maxRecDepth 100000 in
theorem w_ca3b6e86 : (Jvm.Cond.fieldLink "VerseCommittee$Rendering" (37 : Nat) "VerseCommittee$Rendering" "keptAll" "[I") ∈ BIG := tb_4 172 rfl rfl
set_option maxRecDepth 100000 in
theorem w_16f2707b : (Jvm.Cond.fieldLink "VerseCommittee$Rendering" (40 : Nat) "VerseCommittee$Rendering" "keptNeed" "[I") ∈ BIG := tb_4 173 rfl rfl
set_option maxRecDepth 100000 in
theorem w_54e1e230 : (Jvm.Cond.methodLink "VerseCommittee" (233 : Nat) ({ cls := "VerseCommittee$Rendering", name := "fill", desc := "([II)V" } : Jvm.MethodName)) ∈ BIG := tb_4 203 rfl rfl
set_option maxRecDepth 100000 in
theorem w_469cc37b : (Jvm.Cond.instanceMethod ({ cls := "VerseCommittee$Rendering", name := "fill", desc := "([II)V" } : Jvm.MethodName)) ∈ BIG := tb_4 204 rfl rfl
set_option maxRecDepth 100000 in
theorem w_5b4d447a : (Jvm.Cond.selects "VerseCommittee$Rendering" ({ cls := "VerseCommittee$Rendering", name := "fill", desc := "([II)V" } : Jvm.MethodName) ({ cls := "VerseCommittee$Rendering", name := "fill", desc := "([II)V" } : Jvm.MethodName)) ∈ BIG := tb_4 205 rfl rfl
set_option maxRecDepth 100000 in
theorem w_9f0cf532 : (Jvm.Cond.code ({ cls := "VerseCommittee$Rendering", name := "fill", desc := "([II)V" } : Jvm.MethodName) prog_9_method_2_code (4 : Nat) (Option.none : Option Jvm.ClassFile.FieldType)) ∈ BIG := tb_4 206 rfl rfl
set_option maxRecDepth 100000 in
theorem w_6c72e541 : (Jvm.Cond.methodLink "VerseCommittee" (237 : Nat) ({ cls := "VerseCommittee$Shelf", name := "enter", desc := "(LVerseCommittee$Rendering;)I" } : Jvm.MethodName)) ∈ BIG := tb_4 207 rfl rfl
set_option maxRecDepth 100000 in
theorem w_b781ef6e : (Jvm.Cond.instanceMethod ({ cls := "VerseCommittee$Shelf", name := "enter", desc := "(LVerseCommittee$Rendering;)I" } : Jvm.MethodName)) ∈ BIG := tb_4 208 rfl rfl
set_option maxRecDepth 100000 in
theorem w_8876f919 : (Jvm.Cond.selects "VerseCommittee$Shelf" ({ cls := "VerseCommittee$Shelf", name := "enter", desc := "(LVerseCommittee$Rendering;)I" } : Jvm.MethodName) ({ cls := "VerseCommittee$Shelf", name := "enter", desc := "(LVerseCommittee$Rendering;)I" } : Jvm.MethodName)) ∈ BIG := tb_4 209 rfl rfl
set_option maxRecDepth 100000 in
theorem w_93c535fb : (Jvm.Cond.code ({ cls := "VerseCommittee$Shelf", name := "enter", desc := "(LVerseCommittee$Rendering;)I" } : Jvm.MethodName) prog_10_method_4_code (2 : Nat) (Option.some Jvm.ClassFile.FieldType.int)) ∈ BIG := tb_4 210 rfl rfl
set_option maxRecDepth 100000 in
theorem w_92282f47 : (Jvm.Cond.methodLink "VerseCommittee$Shelf" (34 : Nat) ({ cls := "VerseCommittee$Shelf", name := "isFull", desc := "()Z" } : Jvm.MethodName)) ∈ BIG := tb_4 211 rfl rfl
set_option maxRecDepth 100000 in
theorem w_4fde76c4 : (Jvm.Cond.methodLink "VerseCommitteeLaw" (85 : Nat) ({ cls := "VerseCommittee", name := "vote", desc := "(IIZ)Z" } : Jvm.MethodName)) ∈ BIG := tb_4 212 rfl rfl
set_option maxRecDepth 100000 in
theorem w_b4f571f0 : (Jvm.Cond.instanceMethod ({ cls := "VerseCommittee", name := "vote", desc := "(IIZ)Z" } : Jvm.MethodName)) ∈ BIG := tb_4 213 rfl rfl
set_option maxRecDepth 100000 in
theorem w_370965b0 : (Jvm.Cond.selects "VerseCommittee" ({ cls := "VerseCommittee", name := "vote", desc := "(IIZ)Z" } : Jvm.MethodName) ({ cls := "VerseCommittee", name := "vote", desc := "(IIZ)Z" } : Jvm.MethodName)) ∈ BIG := tb_4 214 rfl rfl
set_option maxRecDepth 100000 in
theorem w_6eecbd5a : (Jvm.Cond.code ({ cls := "VerseCommittee", name := "vote", desc := "(IIZ)Z" } : Jvm.MethodName) prog_1_method_18_code (5 : Nat) (Option.some Jvm.ClassFile.FieldType.boolean)) ∈ BIG := tb_4 215 rfl rfl
set_option maxRecDepth 100000 in
theorem w_5b2695f9 : (Jvm.Cond.methodLink "VerseCommittee" (240 : Nat) ({ cls := "VerseCommittee$Shelf", name := "at", desc := "(I)LVerseCommittee$Rendering;" } : Jvm.MethodName)) ∈ BIG := tb_4 216 rfl rfl
set_option maxRecDepth 100000 in
theorem w_c0ef8000 : (Jvm.Cond.instanceMethod ({ cls := "VerseCommittee$Shelf", name := "at", desc := "(I)LVerseCommittee$Rendering;" } : Jvm.MethodName)) ∈ BIG := tb_4 217 rfl rfl
set_option maxRecDepth 100000 in
theorem w_23ca30a1 : (Jvm.Cond.selects "VerseCommittee$Shelf" ({ cls := "VerseCommittee$Shelf", name := "at", desc := "(I)LVerseCommittee$Rendering;" } : Jvm.MethodName) ({ cls := "VerseCommittee$Shelf", name := "at", desc := "(I)LVerseCommittee$Rendering;" } : Jvm.MethodName)) ∈ BIG := tb_4 218 rfl rfl
set_option maxRecDepth 100000 in
theorem w_7d7c6646 : (Jvm.Cond.code ({ cls := "VerseCommittee$Shelf", name := "at", desc := "(I)LVerseCommittee$Rendering;" } : Jvm.MethodName) prog_10_method_5_code (2 : Nat) (Option.some (Jvm.ClassFile.FieldType.object "VerseCommittee$Rendering"))) ∈ BIG := tb_4 219 rfl rfl
set_option maxRecDepth 100000 in
theorem w_1183a888 : (Jvm.Cond.methodLink "VerseCommittee" (244 : Nat) ({ cls := "VerseCommittee$Rendering", name := "isUnderVote", desc := "()Z" } : Jvm.MethodName)) ∈ BIG := tb_4 220 rfl rfl
set_option maxRecDepth 100000 in
theorem w_5c12f139 : (Jvm.Cond.instanceMethod ({ cls := "VerseCommittee$Rendering", name := "isUnderVote", desc := "()Z" } : Jvm.MethodName)) ∈ BIG := tb_4 221 rfl rfl
set_option maxRecDepth 100000 in
theorem w_de5abb65 : (Jvm.Cond.selects "VerseCommittee$Rendering" ({ cls := "VerseCommittee$Rendering", name := "isUnderVote", desc := "()Z" } : Jvm.MethodName) ({ cls := "VerseCommittee$Rendering", name := "isUnderVote", desc := "()Z" } : Jvm.MethodName)) ∈ BIG := tb_4 222 rfl rfl
set_option maxRecDepth 100000 in
theorem w_4c684ffd : (Jvm.Cond.code ({ cls := "VerseCommittee$Rendering", name := "isUnderVote", desc := "()Z" } : Jvm.MethodName) prog_9_method_11_code (1 : Nat) (Option.some Jvm.ClassFile.FieldType.boolean)) ∈ BIG := tb_4 223 rfl rfl
set_option maxRecDepth 100000 in
theorem w_b88f939e : (Jvm.Cond.methodLink "VerseCommittee" (247 : Nat) ({ cls := "VerseCommittee", name := "votersOf", desc := "(LVerseCommittee$Rendering;)I" } : Jvm.MethodName)) ∈ BIG := tb_4 224 rfl rfl
set_option maxRecDepth 100000 in
theorem w_b0dd50ca : (Jvm.Cond.instanceMethod ({ cls := "VerseCommittee", name := "votersOf", desc := "(LVerseCommittee$Rendering;)I" } : Jvm.MethodName)) ∈ BIG := tb_4 226 rfl rfl
set_option maxRecDepth 100000 in
theorem w_31e4d0dc : (Jvm.Cond.code ({ cls := "VerseCommittee", name := "votersOf", desc := "(LVerseCommittee$Rendering;)I" } : Jvm.MethodName) prog_1_method_52_code (3 : Nat) (Option.some Jvm.ClassFile.FieldType.int)) ∈ BIG := tb_4 227 rfl rfl
set_option maxRecDepth 100000 in
theorem w_ff2159a5 : (Jvm.Cond.methodLink "VerseCommittee" (254 : Nat) ({ cls := "VerseCommittee$Rendering", name := "verseNumber", desc := "()I" } : Jvm.MethodName)) ∈ BIG := tb_4 228 rfl rfl
set_option maxRecDepth 100000 in
theorem w_d4c1f64f : (Jvm.Cond.instanceMethod ({ cls := "VerseCommittee$Rendering", name := "verseNumber", desc := "()I" } : Jvm.MethodName)) ∈ BIG := tb_4 229 rfl rfl
set_option maxRecDepth 100000 in
theorem w_3f2e14b5 : (Jvm.Cond.selects "VerseCommittee$Rendering" ({ cls := "VerseCommittee$Rendering", name := "verseNumber", desc := "()I" } : Jvm.MethodName) ({ cls := "VerseCommittee$Rendering", name := "verseNumber", desc := "()I" } : Jvm.MethodName)) ∈ BIG := tb_4 230 rfl rfl
set_option maxRecDepth 100000 in
theorem w_7d3cd84f : (Jvm.Cond.code ({ cls := "VerseCommittee$Rendering", name := "verseNumber", desc := "()I" } : Jvm.MethodName) prog_9_method_3_code (1 : Nat) (Option.some Jvm.ClassFile.FieldType.int)) ∈ BIG := tb_4 231 rfl rfl
set_option maxRecDepth 100000 in
theorem w_ee8a2ea1 : (Jvm.Cond.methodLink "VerseCommittee" (401 : Nat) ({ cls := "VerseCommittee$Verses", name := "bookOf", desc := "(I)I" } : Jvm.MethodName)) ∈ BIG := tb_4 232 rfl rfl
set_option maxRecDepth 100000 in
theorem w_237bbdc9 : (Jvm.Cond.methodLink "VerseCommittee" (257 : Nat) ({ cls := "VerseCommittee$Rendering", name := "stage", desc := "()I" } : Jvm.MethodName)) ∈ BIG := tb_4 233 rfl rfl
set_option maxRecDepth 100000 in
theorem w_014eb45b : (Jvm.Cond.instanceMethod ({ cls := "VerseCommittee$Rendering", name := "stage", desc := "()I" } : Jvm.MethodName)) ∈ BIG := tb_4 234 rfl rfl
set_option maxRecDepth 100000 in
theorem w_34965eac : (Jvm.Cond.selects "VerseCommittee$Rendering" ({ cls := "VerseCommittee$Rendering", name := "stage", desc := "()I" } : Jvm.MethodName) ({ cls := "VerseCommittee$Rendering", name := "stage", desc := "()I" } : Jvm.MethodName)) ∈ BIG := tb_4 235 rfl rfl
set_option maxRecDepth 100000 in
theorem w_b9c870b7 : (Jvm.Cond.code ({ cls := "VerseCommittee$Rendering", name := "stage", desc := "()I" } : Jvm.MethodName) prog_9_method_12_code (1 : Nat) (Option.some Jvm.ClassFile.FieldType.int)) ∈ BIG := tb_4 236 rfl rfl
set_option maxRecDepth 100000 in
theorem w_3801a907 : (Jvm.Cond.methodLink "VerseCommittee" (404 : Nat) ({ cls := "VerseCommittee$People", name := "companyOf", desc := "(I)I" } : Jvm.MethodName)) ∈ BIG := tb_4 237 rfl rfl
set_option maxRecDepth 100000 in
theorem w_ed548426 : (Jvm.Cond.methodLink "VerseCommittee" (407 : Nat) ({ cls := "VerseCommittee$People", name := "voters", desc := "(II)I" } : Jvm.MethodName)) ∈ BIG := tb_4 238 rfl rfl
set_option maxRecDepth 100000 in
theorem w_9a69e756 : (Jvm.Cond.instanceMethod ({ cls := "VerseCommittee$People", name := "voters", desc := "(II)I" } : Jvm.MethodName)) ∈ BIG := tb_4 239 rfl rfl
set_option maxRecDepth 100000 in
theorem w_53bdd563 : (Jvm.Cond.selects "VerseCommittee$People" ({ cls := "VerseCommittee$People", name := "voters", desc := "(II)I" } : Jvm.MethodName) ({ cls := "VerseCommittee$People", name := "voters", desc := "(II)I" } : Jvm.MethodName)) ∈ BIG := tb_5 0 rfl rfl
set_option maxRecDepth 100000 in
theorem w_17ed9d0f : (Jvm.Cond.code ({ cls := "VerseCommittee$People", name := "voters", desc := "(II)I" } : Jvm.MethodName) prog_6_method_15_code (3 : Nat) (Option.some Jvm.ClassFile.FieldType.int)) ∈ BIG := tb_5 1 rfl rfl
set_option maxRecDepth 100000 in
theorem w_4f70438c : (Jvm.Cond.methodLink "VerseCommittee" (250 : Nat) ({ cls := "VerseCommittee$Rendering", name := "putVote", desc := "(IZ)V" } : Jvm.MethodName)) ∈ BIG := tb_5 2 rfl rfl
set_option maxRecDepth 100000 in
theorem w_f00670cd : (Jvm.Cond.instanceMethod ({ cls := "VerseCommittee$Rendering", name := "putVote", desc := "(IZ)V" } : Jvm.MethodName)) ∈ BIG := tb_5 3 rfl rfl
set_option maxRecDepth 100000 in
theorem w_f7795595 : (Jvm.Cond.selects "VerseCommittee$Rendering" ({ cls := "VerseCommittee$Rendering", name := "putVote", desc := "(IZ)V" } : Jvm.MethodName) ({ cls := "VerseCommittee$Rendering", name := "putVote", desc := "(IZ)V" } : Jvm.MethodName)) ∈ BIG := tb_5 4 rfl rfl
set_option maxRecDepth 100000 in
theorem w_bdcbe005 : (Jvm.Cond.code ({ cls := "VerseCommittee$Rendering", name := "putVote", desc := "(IZ)V" } : Jvm.MethodName) prog_9_method_13_code (4 : Nat) (Option.none : Option Jvm.ClassFile.FieldType)) ∈ BIG := tb_5 5 rfl rfl
set_option maxRecDepth 100000 in
theorem w_8691b8cb : (Jvm.Cond.methodLink "VerseCommittee$Rendering" (58 : Nat) ({ cls := "VerseCommittee$Rendering", name := "stage", desc := "()I" } : Jvm.MethodName)) ∈ BIG := tb_5 6 rfl rfl
set_option maxRecDepth 100000 in
theorem w_0473f105 : (Jvm.Cond.methodLink "VerseCommitteeLaw" (90 : Nat) ({ cls := "VerseCommittee", name := "close", desc := "(I)I" } : Jvm.MethodName)) ∈ BIG := tb_5 7 rfl rfl
set_option maxRecDepth 100000 in
theorem w_0689e85d : (Jvm.Cond.instanceMethod ({ cls := "VerseCommittee", name := "close", desc := "(I)I" } : Jvm.MethodName)) ∈ BIG := tb_5 8 rfl rfl
set_option maxRecDepth 100000 in
theorem w_b4581049 : (Jvm.Cond.selects "VerseCommittee" ({ cls := "VerseCommittee", name := "close", desc := "(I)I" } : Jvm.MethodName) ({ cls := "VerseCommittee", name := "close", desc := "(I)I" } : Jvm.MethodName)) ∈ BIG := tb_5 9 rfl rfl
set_option maxRecDepth 100000 in
theorem w_e5cadf7f : (Jvm.Cond.code ({ cls := "VerseCommittee", name := "close", desc := "(I)I" } : Jvm.MethodName) prog_1_method_19_code (7 : Nat) (Option.some Jvm.ClassFile.FieldType.int)) ∈ BIG := tb_5 10 rfl rfl
set_option maxRecDepth 100000 in
theorem w_a0446793 : (Jvm.Cond.methodLink "VerseCommittee" (260 : Nat) ({ cls := "VerseCommittee$Rendering", name := "wouldGoOn", desc := "(II)Z" } : Jvm.MethodName)) ∈ BIG := tb_5 11 rfl rfl
set_option maxRecDepth 100000 in
theorem w_42c237c7 : (Jvm.Cond.instanceMethod ({ cls := "VerseCommittee$Rendering", name := "wouldGoOn", desc := "(II)Z" } : Jvm.MethodName)) ∈ BIG := tb_5 12 rfl rfl
set_option maxRecDepth 100000 in
theorem w_ed5b81ca : (Jvm.Cond.selects "VerseCommittee$Rendering" ({ cls := "VerseCommittee$Rendering", name := "wouldGoOn", desc := "(II)Z" } : Jvm.MethodName) ({ cls := "VerseCommittee$Rendering", name := "wouldGoOn", desc := "(II)Z" } : Jvm.MethodName)) ∈ BIG := tb_5 13 rfl rfl
set_option maxRecDepth 100000 in
theorem w_7fdc03e1 : (Jvm.Cond.code ({ cls := "VerseCommittee$Rendering", name := "wouldGoOn", desc := "(II)Z" } : Jvm.MethodName) prog_9_method_14_code (4 : Nat) (Option.some Jvm.ClassFile.FieldType.boolean)) ∈ BIG := tb_5 14 rfl rfl
set_option maxRecDepth 100000 in
theorem w_d4300f0d : (Jvm.Cond.methodLink "VerseCommittee$Rendering" (62 : Nat) ({ cls := "java/lang/Integer", name := "bitCount", desc := "(I)I" } : Jvm.MethodName)) ∈ BIG := tb_5 15 rfl rfl
set_option maxRecDepth 100000 in
theorem w_79f8976a : (Jvm.Cond.static ({ cls := "java/lang/Integer", name := "bitCount", desc := "(I)I" } : Jvm.MethodName)) ∈ BIG := tb_5 16 rfl rfl
set_option maxRecDepth 100000 in
theorem w_76e727e8 : (Jvm.Cond.methodLink "VerseCommittee$Rendering" (68 : Nat) ({ cls := "VerseCommittee$Rendering", name := "isEnough", desc := "(III)Z" } : Jvm.MethodName)) ∈ BIG := tb_5 21 rfl rfl
set_option maxRecDepth 100000 in
theorem w_7c502382 : (Jvm.Cond.static ({ cls := "VerseCommittee$Rendering", name := "isEnough", desc := "(III)Z" } : Jvm.MethodName)) ∈ BIG := tb_5 22 rfl rfl
set_option maxRecDepth 100000 in
theorem w_0741e854 : (Jvm.Cond.code ({ cls := "VerseCommittee$Rendering", name := "isEnough", desc := "(III)Z" } : Jvm.MethodName) prog_9_method_21_code (3 : Nat) (Option.some Jvm.ClassFile.FieldType.boolean)) ∈ BIG := tb_5 23 rfl rfl
set_option maxRecDepth 100000 in
theorem w_0c9201b8 : (Jvm.Cond.methodLink "VerseCommittee" (263 : Nat) ({ cls := "VerseCommittee$Shelf", name := "mayBeFixed", desc := "(III)Z" } : Jvm.MethodName)) ∈ BIG := tb_5 24 rfl rfl
set_option maxRecDepth 100000 in
theorem w_4465a10f : (Jvm.Cond.instanceMethod ({ cls := "VerseCommittee$Shelf", name := "mayBeFixed", desc := "(III)Z" } : Jvm.MethodName)) ∈ BIG := tb_5 25 rfl rfl
set_option maxRecDepth 100000 in
theorem w_b0c8247c : (Jvm.Cond.selects "VerseCommittee$Shelf" ({ cls := "VerseCommittee$Shelf", name := "mayBeFixed", desc := "(III)Z" } : Jvm.MethodName) ({ cls := "VerseCommittee$Shelf", name := "mayBeFixed", desc := "(III)Z" } : Jvm.MethodName)) ∈ BIG := tb_5 26 rfl rfl
set_option maxRecDepth 100000 in
theorem w_6facf77d : (Jvm.Cond.code ({ cls := "VerseCommittee$Shelf", name := "mayBeFixed", desc := "(III)Z" } : Jvm.MethodName) prog_10_method_11_code (5 : Nat) (Option.some Jvm.ClassFile.FieldType.boolean)) ∈ BIG := tb_5 27 rfl rfl
set_option maxRecDepth 100000 in
theorem w_b4350182 : (Jvm.Cond.methodLink "VerseCommittee$Shelf" (53 : Nat) ({ cls := "VerseCommittee$Shelf", name := "fixedAt", desc := "(I)LVerseCommittee$Rendering;" } : Jvm.MethodName)) ∈ BIG := tb_5 28 rfl rfl
set_option maxRecDepth 100000 in
theorem w_543bb3cc : (Jvm.Cond.instanceMethod ({ cls := "VerseCommittee$Shelf", name := "fixedAt", desc := "(I)LVerseCommittee$Rendering;" } : Jvm.MethodName)) ∈ BIG := tb_5 29 rfl rfl
set_option maxRecDepth 100000 in
theorem w_4fab6dbb : (Jvm.Cond.selects "VerseCommittee$Shelf" ({ cls := "VerseCommittee$Shelf", name := "fixedAt", desc := "(I)LVerseCommittee$Rendering;" } : Jvm.MethodName) ({ cls := "VerseCommittee$Shelf", name := "fixedAt", desc := "(I)LVerseCommittee$Rendering;" } : Jvm.MethodName)) ∈ BIG := tb_5 30 rfl rfl
set_option maxRecDepth 100000 in
theorem w_8c4b0102 : (Jvm.Cond.code ({ cls := "VerseCommittee$Shelf", name := "fixedAt", desc := "(I)LVerseCommittee$Rendering;" } : Jvm.MethodName) prog_10_method_7_code (2 : Nat) (Option.some (Jvm.ClassFile.FieldType.object "VerseCommittee$Rendering"))) ∈ BIG := tb_5 31 rfl rfl
set_option maxRecDepth 100000 in
theorem w_c09770e4 : (Jvm.Cond.methodLink "VerseCommittee$Shelf" (38 : Nat) ({ cls := "VerseCommittee$Shelf", name := "fixedNumber", desc := "(I)I" } : Jvm.MethodName)) ∈ BIG := tb_5 32 rfl rfl
set_option maxRecDepth 100000 in
theorem w_08cab4dc : (Jvm.Cond.instanceMethod ({ cls := "VerseCommittee$Shelf", name := "fixedNumber", desc := "(I)I" } : Jvm.MethodName)) ∈ BIG := tb_5 33 rfl rfl
set_option maxRecDepth 100000 in
theorem w_9bb9a816 : (Jvm.Cond.selects "VerseCommittee$Shelf" ({ cls := "VerseCommittee$Shelf", name := "fixedNumber", desc := "(I)I" } : Jvm.MethodName) ({ cls := "VerseCommittee$Shelf", name := "fixedNumber", desc := "(I)I" } : Jvm.MethodName)) ∈ BIG := tb_5 34 rfl rfl
set_option maxRecDepth 100000 in
theorem w_b40da641 : (Jvm.Cond.code ({ cls := "VerseCommittee$Shelf", name := "fixedNumber", desc := "(I)I" } : Jvm.MethodName) prog_10_method_6_code (2 : Nat) (Option.some Jvm.ClassFile.FieldType.int)) ∈ BIG := tb_5 35 rfl rfl
set_option maxRecDepth 100000 in
theorem w_18e697ef : (Jvm.Cond.methodLink "VerseCommittee$Shelf" (42 : Nat) ({ cls := "VerseCommittee$Shelf", name := "at", desc := "(I)LVerseCommittee$Rendering;" } : Jvm.MethodName)) ∈ BIG := tb_5 36 rfl rfl
set_option maxRecDepth 100000 in
theorem w_e7d78dfd : (Jvm.Cond.methodLink "VerseCommittee$Shelf" (56 : Nat) ({ cls := "VerseCommittee$Rendering", name := "daysSinceFixed", desc := "(I)I" } : Jvm.MethodName)) ∈ BIG := tb_5 37 rfl rfl
set_option maxRecDepth 100000 in
theorem w_b8a6c869 : (Jvm.Cond.instanceMethod ({ cls := "VerseCommittee$Rendering", name := "daysSinceFixed", desc := "(I)I" } : Jvm.MethodName)) ∈ BIG := tb_5 38 rfl rfl
