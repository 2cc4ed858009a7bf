set_option maxRecDepth 100000 in
theorem w_1554fdbb : (Jvm.Cond.instantiable "VerseCommittee" (14 : Nat)) ∈ BIG := tb_1 17 rfl rfl
set_option maxRecDepth 100000 in
theorem w_164bc0a7 : (Jvm.Cond.instantiable "VerseCommittee$Words" (3 : Nat)) ∈ BIG := tb_1 25 rfl rfl
set_option maxRecDepth 100000 in
theorem w_18a5ed12 : (Jvm.Cond.classLink "VerseCommittee$Verses" (18 : Nat) "[I") ∈ BIG := tb_1 48 rfl rfl
set_option maxRecDepth 100000 in
theorem w_20960fe7 : (Jvm.Cond.instantiable "VerseCommittee$Choices" (14 : Nat)) ∈ BIG := tb_2 59 rfl rfl
set_option maxRecDepth 100000 in
theorem w_37061820 : (Jvm.Cond.instantiable "VerseCommittee$Verses" (6 : Nat)) ∈ BIG := tb_1 43 rfl rfl
set_option maxRecDepth 100000 in
theorem w_3d064872 : (Jvm.Cond.classLink "VerseCommittee" (85 : Nat) "VerseCommittee$Planner") ∈ BIG := tb_2 108 rfl rfl
set_option maxRecDepth 100000 in
theorem w_4f7b6957 : (Jvm.Cond.instantiable "VerseCommittee$Shelf" (7 : Nat)) ∈ BIG := tb_1 142 rfl rfl
set_option maxRecDepth 100000 in
theorem w_577dbde8 : (Jvm.Cond.classLink "VerseCommitteeLaw" (10 : Nat) "VerseCommitteeModel") ∈ BIG := tb_7 30 rfl rfl
set_option maxRecDepth 100000 in
theorem w_5ebb4376 : (Jvm.Cond.instantiable "VerseCommittee$Reckoner" (14 : Nat)) ∈ BIG := tb_1 202 rfl rfl
set_option maxRecDepth 100000 in
theorem w_5f3a33a0 : (Jvm.Cond.instantiable "VerseCommittee$Laws" (11 : Nat)) ∈ BIG := tb_1 101 rfl rfl
set_option maxRecDepth 100000 in
theorem w_6ddf79c8 : (Jvm.Cond.classLink "VerseCommittee" (60 : Nat) "VerseCommittee$Reckoner") ∈ BIG := tb_1 201 rfl rfl
set_option maxRecDepth 100000 in
theorem w_77a10a06 : (Jvm.Cond.instantiable "VerseCommittee$Findings" (13 : Nat)) ∈ BIG := tb_2 12 rfl rfl
set_option maxRecDepth 100000 in
theorem w_79d6b66d : (Jvm.Cond.classLink "VerseCommittee" (44 : Nat) "VerseCommittee$Shelf") ∈ BIG := tb_1 141 rfl rfl
set_option maxRecDepth 100000 in
theorem w_7ba1509f : (Jvm.Cond.classLink "VerseCommittee" (16 : Nat) "VerseCommittee$Words") ∈ BIG := tb_1 24 rfl rfl
set_option maxRecDepth 100000 in
theorem w_7d01f517 : (Jvm.Cond.arrayClass Jvm.ClassFile.FieldType.boolean) ∈ BIG := tb_2 107 rfl rfl
set_option maxRecDepth 100000 in
theorem w_83d2f98b : (Jvm.Cond.classLink "VerseCommittee" (69 : Nat) "VerseCommittee$Findings") ∈ BIG := tb_2 11 rfl rfl
set_option maxRecDepth 100000 in
theorem w_84346e4a : (Jvm.Cond.classLink "VerseCommittee" (37 : Nat) "VerseCommittee$Laws") ∈ BIG := tb_1 100 rfl rfl
set_option maxRecDepth 100000 in
theorem w_8ea79d83 : (Jvm.Cond.instantiable "VerseCommittee$Planner" (10 : Nat)) ∈ BIG := tb_2 109 rfl rfl
set_option maxRecDepth 100000 in
theorem w_a03202bd : (Jvm.Cond.classLink "VerseCommittee$Shelf" (11 : Nat) "VerseCommittee$Rendering") ∈ BIG := tb_1 147 rfl rfl
set_option maxRecDepth 100000 in
theorem w_aabdd921 : (Jvm.Cond.classLink "VerseCommitteeLaw" (7 : Nat) "VerseCommittee") ∈ BIG := tb_1 16 rfl rfl
set_option maxRecDepth 100000 in
theorem w_ad6f1cf4 : (Jvm.Cond.classLink "VerseCommittee" (78 : Nat) "VerseCommittee$Choices") ∈ BIG := tb_2 58 rfl rfl
set_option maxRecDepth 100000 in
theorem w_c19cc847 : (Jvm.Cond.classLink "VerseCommittee$Laws" (11 : Nat) "[I") ∈ BIG := tb_1 106 rfl rfl
set_option maxRecDepth 100000 in
theorem w_d57ff128 : (Jvm.Cond.instantiable "VerseCommitteeModel" (96 : Nat)) ∈ BIG := tb_7 31 rfl rfl
set_option maxRecDepth 100000 in
theorem w_d7def371 : (Jvm.Cond.classLink "VerseCommittee" (51 : Nat) "VerseCommittee$Parser") ∈ BIG := tb_1 171 rfl rfl
set_option maxRecDepth 100000 in
theorem w_d84cfa56 : (Jvm.Cond.instantiable "VerseCommittee$People" (8 : Nat)) ∈ BIG := tb_1 70 rfl rfl
set_option maxRecDepth 100000 in
theorem w_db47154c : (Jvm.Cond.arrayClass Jvm.ClassFile.FieldType.byte) ∈ BIG := tb_1 41 rfl rfl
set_option maxRecDepth 100000 in
theorem w_e576aa08 : (Jvm.Cond.classLink "VerseCommittee" (30 : Nat) "VerseCommittee$People") ∈ BIG := tb_1 69 rfl rfl
set_option maxRecDepth 100000 in
theorem w_e715b65e : (Jvm.Cond.classLink "VerseCommittee" (23 : Nat) "VerseCommittee$Verses") ∈ BIG := tb_1 42 rfl rfl
set_option maxRecDepth 100000 in
theorem w_e8ffffe2 : (Jvm.Cond.arrayClass Jvm.ClassFile.FieldType.long) ∈ BIG := tb_2 57 rfl rfl
set_option maxRecDepth 100000 in
theorem w_e939d063 : (Jvm.Cond.instantiable "VerseCommittee$Parser" (7 : Nat)) ∈ BIG := tb_1 172 rfl rfl
