theorem w_05995ff5 : (Jvm.Cond.instantiable "VerseCommittee$Rendering" (14 : Nat)) ∈ BIG := big_mem 1022 (by decide +kernel) rfl
theorem w_146149e6 : (Jvm.Cond.code ({ cls := "java/lang/Math", name := "max", desc := "(II)I" } : Jvm.MethodName) prog_16_method_65_code (2 : Nat) (Option.some Jvm.ClassFile.FieldType.int)) ∈ BIG := big_mem 681 (by decide +kernel) rfl
theorem w_47dee913 : (Jvm.Cond.code ({ cls := "java/lang/Object", name := "<init>", desc := "()V" } : Jvm.MethodName) object_method_1_code (1 : Nat) (Option.none : Option Jvm.ClassFile.FieldType)) ∈ BIG := big_mem 171 (by decide +kernel) rfl
theorem w_58990f4a : (Jvm.Cond.code ({ cls := "java/lang/Math", name := "min", desc := "(II)I" } : Jvm.MethodName) prog_16_method_69_code (2 : Nat) (Option.some Jvm.ClassFile.FieldType.int)) ∈ BIG := big_mem 650 (by decide +kernel) rfl
theorem w_99e47bcc : (Jvm.Cond.code ({ cls := "java/lang/Integer", name := "bitCount", desc := "(I)I" } : Jvm.MethodName) prog_15_method_49_code (1 : Nat) (Option.some Jvm.ClassFile.FieldType.int)) ∈ BIG := big_mem 1125 (by decide +kernel) rfl
theorem w_a3cac894 : (Jvm.Cond.classLink "VerseCommittee" (228 : Nat) "VerseCommittee$Rendering") ∈ BIG := big_mem 1021 (by decide +kernel) rfl
theorem w_e8e14353 : (Jvm.Cond.arrayClass Jvm.ClassFile.FieldType.int) ∈ BIG := big_mem 188 (by decide +kernel) rfl
