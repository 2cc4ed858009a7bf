set_option maxRecDepth 100000 in
theorem w_05995ff5 : (Jvm.Cond.instantiable "VerseCommittee$Rendering" (14 : Nat)) ∈ BIG := tb_4 154 rfl rfl
set_option maxRecDepth 100000 in
theorem w_146149e6 : (Jvm.Cond.code ({ cls := "java/lang/Math", name := "max", desc := "(II)I" } : Jvm.MethodName) prog_16_method_65_code (2 : Nat) (Option.some Jvm.ClassFile.FieldType.int)) ∈ BIG := tb_3 53 rfl rfl
set_option maxRecDepth 100000 in
theorem w_47dee913 : (Jvm.Cond.code ({ cls := "java/lang/Object", name := "<init>", desc := "()V" } : Jvm.MethodName) object_method_1_code (1 : Nat) (Option.none : Option Jvm.ClassFile.FieldType)) ∈ BIG := tb_1 23 rfl rfl
set_option maxRecDepth 100000 in
theorem w_58990f4a : (Jvm.Cond.code ({ cls := "java/lang/Math", name := "min", desc := "(II)I" } : Jvm.MethodName) prog_16_method_69_code (2 : Nat) (Option.some Jvm.ClassFile.FieldType.int)) ∈ BIG := tb_3 22 rfl rfl
set_option maxRecDepth 100000 in
theorem w_99e47bcc : (Jvm.Cond.code ({ cls := "java/lang/Integer", name := "bitCount", desc := "(I)I" } : Jvm.MethodName) prog_15_method_49_code (1 : Nat) (Option.some Jvm.ClassFile.FieldType.int)) ∈ BIG := tb_5 17 rfl rfl
set_option maxRecDepth 100000 in
theorem w_a3cac894 : (Jvm.Cond.classLink "VerseCommittee" (228 : Nat) "VerseCommittee$Rendering") ∈ BIG := tb_4 153 rfl rfl
set_option maxRecDepth 100000 in
theorem w_e8e14353 : (Jvm.Cond.arrayClass Jvm.ClassFile.FieldType.int) ∈ BIG := tb_1 40 rfl rfl
