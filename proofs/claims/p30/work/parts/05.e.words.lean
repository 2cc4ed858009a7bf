/-! words of the tables by their places -/
set_option maxRecDepth 100000 in
theorem w_4e5f265c : (Jvm.Cond.methodLink "VerseCommitteeModel" (454 : Nat) ({ cls := "VerseCommitteeModel", name := "isMeant", desc := "(II)Z" } : Jvm.MethodName)) ∈ BIG := tb_9 158 rfl rfl
set_option maxRecDepth 100000 in
theorem w_3e974228 : (Jvm.Cond.instanceMethod ({ cls := "VerseCommitteeModel", name := "isMeant", desc := "(II)Z" } : Jvm.MethodName)) ∈ BIG := tb_9 160 rfl rfl
set_option maxRecDepth 100000 in
theorem w_083595e5 : (Jvm.Cond.code ({ cls := "VerseCommitteeModel", name := "isMeant", desc := "(II)Z" } : Jvm.MethodName) prog_14_method_81_code (3 : Nat) (Option.some Jvm.ClassFile.FieldType.boolean)) ∈ BIG := tb_9 161 rfl rfl
set_option maxRecDepth 100000 in
theorem w_875b6e98 : (Jvm.Cond.methodLink "VerseCommitteeModel" (457 : Nat) ({ cls := "VerseCommitteeModel", name := "turnsBy", desc := "(III)Z" } : Jvm.MethodName)) ∈ BIG := tb_9 162 rfl rfl
set_option maxRecDepth 100000 in
theorem w_5158ecdf : (Jvm.Cond.instanceMethod ({ cls := "VerseCommitteeModel", name := "turnsBy", desc := "(III)Z" } : Jvm.MethodName)) ∈ BIG := tb_9 164 rfl rfl
set_option maxRecDepth 100000 in
theorem w_403580db : (Jvm.Cond.code ({ cls := "VerseCommitteeModel", name := "turnsBy", desc := "(III)Z" } : Jvm.MethodName) prog_14_method_82_code (6 : Nat) (Option.some Jvm.ClassFile.FieldType.boolean)) ∈ BIG := tb_9 165 rfl rfl
set_option maxRecDepth 100000 in
theorem w_57af4bff : (Jvm.Cond.methodLink "VerseCommitteeLaw" (113 : Nat) ({ cls := "VerseCommitteeModel", name := "breach", desc := "(III)I" } : Jvm.MethodName)) ∈ BIG := tb_9 166 rfl rfl
set_option maxRecDepth 100000 in
theorem w_33982bb8 : (Jvm.Cond.instanceMethod ({ cls := "VerseCommitteeModel", name := "breach", desc := "(III)I" } : Jvm.MethodName)) ∈ BIG := tb_9 167 rfl rfl
set_option maxRecDepth 100000 in
theorem w_85953e96 : (Jvm.Cond.selects "VerseCommitteeModel" ({ cls := "VerseCommitteeModel", name := "breach", desc := "(III)I" } : Jvm.MethodName) ({ cls := "VerseCommitteeModel", name := "breach", desc := "(III)I" } : Jvm.MethodName)) ∈ BIG := tb_9 168 rfl rfl
set_option maxRecDepth 100000 in
theorem w_09930176 : (Jvm.Cond.code ({ cls := "VerseCommitteeModel", name := "breach", desc := "(III)I" } : Jvm.MethodName) prog_14_method_85_code (4 : Nat) (Option.some Jvm.ClassFile.FieldType.int)) ∈ BIG := tb_9 169 rfl rfl
set_option maxRecDepth 100000 in
theorem w_843f1b99 : (Jvm.Cond.methodLink "VerseCommitteeLaw" (117 : Nat) ({ cls := "VerseCommitteeModel", name := "quarrel", desc := "(III)I" } : Jvm.MethodName)) ∈ BIG := tb_9 170 rfl rfl
set_option maxRecDepth 100000 in
theorem w_8180f0dd : (Jvm.Cond.instanceMethod ({ cls := "VerseCommitteeModel", name := "quarrel", desc := "(III)I" } : Jvm.MethodName)) ∈ BIG := tb_9 171 rfl rfl
set_option maxRecDepth 100000 in
theorem w_56449f8e : (Jvm.Cond.selects "VerseCommitteeModel" ({ cls := "VerseCommitteeModel", name := "quarrel", desc := "(III)I" } : Jvm.MethodName) ({ cls := "VerseCommitteeModel", name := "quarrel", desc := "(III)I" } : Jvm.MethodName)) ∈ BIG := tb_9 172 rfl rfl
set_option maxRecDepth 100000 in
theorem w_00468a34 : (Jvm.Cond.code ({ cls := "VerseCommitteeModel", name := "quarrel", desc := "(III)I" } : Jvm.MethodName) prog_14_method_88_code (4 : Nat) (Option.some Jvm.ClassFile.FieldType.int)) ∈ BIG := tb_9 173 rfl rfl
set_option maxRecDepth 100000 in
theorem w_6a914f00 : (Jvm.Cond.methodLink "VerseCommitteeModel" (475 : Nat) ({ cls := "VerseCommitteeModel", name := "quarrelsOf", desc := "(II)I" } : Jvm.MethodName)) ∈ BIG := tb_9 174 rfl rfl
set_option maxRecDepth 100000 in
theorem w_357bac27 : (Jvm.Cond.instanceMethod ({ cls := "VerseCommitteeModel", name := "quarrelsOf", desc := "(II)I" } : Jvm.MethodName)) ∈ BIG := tb_9 176 rfl rfl
set_option maxRecDepth 100000 in
theorem w_af6158c2 : (Jvm.Cond.code ({ cls := "VerseCommitteeModel", name := "quarrelsOf", desc := "(II)I" } : Jvm.MethodName) prog_14_method_87_code (9 : Nat) (Option.some Jvm.ClassFile.FieldType.int)) ∈ BIG := tb_9 177 rfl rfl
set_option maxRecDepth 100000 in
theorem w_5d3e8bdf : (Jvm.Cond.methodLink "VerseCommitteeModel" (469 : Nat) ({ cls := "VerseCommitteeModel", name := "isAsked", desc := "(III)Z" } : Jvm.MethodName)) ∈ BIG := tb_9 178 rfl rfl
set_option maxRecDepth 100000 in
theorem w_9e31d9d8 : (Jvm.Cond.instanceMethod ({ cls := "VerseCommitteeModel", name := "isAsked", desc := "(III)Z" } : Jvm.MethodName)) ∈ BIG := tb_9 180 rfl rfl
set_option maxRecDepth 100000 in
theorem w_e8e5b582 : (Jvm.Cond.code ({ cls := "VerseCommitteeModel", name := "isAsked", desc := "(III)Z" } : Jvm.MethodName) prog_14_method_86_code (4 : Nat) (Option.some Jvm.ClassFile.FieldType.boolean)) ∈ BIG := tb_9 181 rfl rfl
set_option maxRecDepth 100000 in
theorem w_603f5662 : (Jvm.Cond.methodLink "VerseCommitteeLaw" (121 : Nat) ({ cls := "VerseCommitteeModel", name := "unlike", desc := "(II)I" } : Jvm.MethodName)) ∈ BIG := tb_9 182 rfl rfl
set_option maxRecDepth 100000 in
theorem w_7c1faddf : (Jvm.Cond.instanceMethod ({ cls := "VerseCommitteeModel", name := "unlike", desc := "(II)I" } : Jvm.MethodName)) ∈ BIG := tb_9 183 rfl rfl
set_option maxRecDepth 100000 in
theorem w_3c0bd07f : (Jvm.Cond.selects "VerseCommitteeModel" ({ cls := "VerseCommitteeModel", name := "unlike", desc := "(II)I" } : Jvm.MethodName) ({ cls := "VerseCommitteeModel", name := "unlike", desc := "(II)I" } : Jvm.MethodName)) ∈ BIG := tb_9 184 rfl rfl
set_option maxRecDepth 100000 in
theorem w_cb6c5362 : (Jvm.Cond.code ({ cls := "VerseCommitteeModel", name := "unlike", desc := "(II)I" } : Jvm.MethodName) prog_14_method_94_code (3 : Nat) (Option.some Jvm.ClassFile.FieldType.int)) ∈ BIG := tb_9 185 rfl rfl
set_option maxRecDepth 100000 in
theorem w_59e9720e : (Jvm.Cond.methodLink "VerseCommitteeModel" (503 : Nat) ({ cls := "VerseCommitteeModel", name := "unlikes", desc := "(I)I" } : Jvm.MethodName)) ∈ BIG := tb_9 186 rfl rfl
set_option maxRecDepth 100000 in
theorem w_3a3802f6 : (Jvm.Cond.instanceMethod ({ cls := "VerseCommitteeModel", name := "unlikes", desc := "(I)I" } : Jvm.MethodName)) ∈ BIG := tb_9 188 rfl rfl
set_option maxRecDepth 100000 in
theorem w_ad8960a4 : (Jvm.Cond.code ({ cls := "VerseCommitteeModel", name := "unlikes", desc := "(I)I" } : Jvm.MethodName) prog_14_method_93_code (9 : Nat) (Option.some Jvm.ClassFile.FieldType.int)) ∈ BIG := tb_9 189 rfl rfl
set_option maxRecDepth 100000 in
theorem w_f45c8d5c : (Jvm.Cond.methodLink "VerseCommitteeModel" (488 : Nat) ({ cls := "VerseCommitteeModel", name := "isUnlike", desc := "(IIII)Z" } : Jvm.MethodName)) ∈ BIG := tb_9 190 rfl rfl
set_option maxRecDepth 100000 in
theorem w_2aa8a417 : (Jvm.Cond.instanceMethod ({ cls := "VerseCommitteeModel", name := "isUnlike", desc := "(IIII)Z" } : Jvm.MethodName)) ∈ BIG := tb_9 192 rfl rfl
set_option maxRecDepth 100000 in
theorem w_d7de8194 : (Jvm.Cond.code ({ cls := "VerseCommitteeModel", name := "isUnlike", desc := "(IIII)Z" } : Jvm.MethodName) prog_14_method_92_code (5 : Nat) (Option.some Jvm.ClassFile.FieldType.boolean)) ∈ BIG := tb_9 193 rfl rfl
set_option maxRecDepth 100000 in
theorem w_935b0c54 : (Jvm.Cond.methodLink "VerseCommitteeModel" (481 : Nat) ({ cls := "VerseCommitteeModel", name := "areTurnedAlike", desc := "(IIII)Z" } : Jvm.MethodName)) ∈ BIG := tb_9 194 rfl rfl
set_option maxRecDepth 100000 in
theorem w_985101fa : (Jvm.Cond.instanceMethod ({ cls := "VerseCommitteeModel", name := "areTurnedAlike", desc := "(IIII)Z" } : Jvm.MethodName)) ∈ BIG := tb_9 196 rfl rfl
set_option maxRecDepth 100000 in
theorem w_3e7f5da4 : (Jvm.Cond.code ({ cls := "VerseCommitteeModel", name := "areTurnedAlike", desc := "(IIII)Z" } : Jvm.MethodName) prog_14_method_90_code (6 : Nat) (Option.some Jvm.ClassFile.FieldType.boolean)) ∈ BIG := tb_9 197 rfl rfl
set_option maxRecDepth 100000 in
theorem w_c1a9e6b3 : (Jvm.Cond.methodLink "VerseCommitteeModel" (478 : Nat) ({ cls := "VerseCommitteeModel", name := "wordOf", desc := "(III)I" } : Jvm.MethodName)) ∈ BIG := tb_9 198 rfl rfl
set_option maxRecDepth 100000 in
theorem w_8b4f203b : (Jvm.Cond.instanceMethod ({ cls := "VerseCommitteeModel", name := "wordOf", desc := "(III)I" } : Jvm.MethodName)) ∈ BIG := tb_9 200 rfl rfl
set_option maxRecDepth 100000 in
theorem w_f967b07c : (Jvm.Cond.code ({ cls := "VerseCommitteeModel", name := "wordOf", desc := "(III)I" } : Jvm.MethodName) prog_14_method_89_code (6 : Nat) (Option.some Jvm.ClassFile.FieldType.int)) ∈ BIG := tb_9 201 rfl rfl
set_option maxRecDepth 100000 in
theorem w_0a5632d3 : (Jvm.Cond.methodLink "VerseCommitteeModel" (485 : Nat) ({ cls := "VerseCommitteeModel", name := "mustBeAlike", desc := "(II)Z" } : Jvm.MethodName)) ∈ BIG := tb_9 202 rfl rfl
set_option maxRecDepth 100000 in
theorem w_dbf7a773 : (Jvm.Cond.instanceMethod ({ cls := "VerseCommitteeModel", name := "mustBeAlike", desc := "(II)Z" } : Jvm.MethodName)) ∈ BIG := tb_9 204 rfl rfl
set_option maxRecDepth 100000 in
theorem w_a2e3ca67 : (Jvm.Cond.code ({ cls := "VerseCommitteeModel", name := "mustBeAlike", desc := "(II)Z" } : Jvm.MethodName) prog_14_method_91_code (5 : Nat) (Option.some Jvm.ClassFile.FieldType.boolean)) ∈ BIG := tb_9 205 rfl rfl
set_option maxRecDepth 100000 in
theorem w_a6ec61f1 : (Jvm.Cond.methodLink "VerseCommitteeLaw" (126 : Nat) ({ cls := "VerseCommitteeModel", name := "option", desc := "(II)Z" } : Jvm.MethodName)) ∈ BIG := tb_9 206 rfl rfl
set_option maxRecDepth 100000 in
theorem w_9e71d848 : (Jvm.Cond.instanceMethod ({ cls := "VerseCommitteeModel", name := "option", desc := "(II)Z" } : Jvm.MethodName)) ∈ BIG := tb_9 207 rfl rfl
set_option maxRecDepth 100000 in
theorem w_c53cbdc7 : (Jvm.Cond.selects "VerseCommitteeModel" ({ cls := "VerseCommitteeModel", name := "option", desc := "(II)Z" } : Jvm.MethodName) ({ cls := "VerseCommitteeModel", name := "option", desc := "(II)Z" } : Jvm.MethodName)) ∈ BIG := tb_9 208 rfl rfl
set_option maxRecDepth 100000 in
theorem w_0de97573 : (Jvm.Cond.code ({ cls := "VerseCommitteeModel", name := "option", desc := "(II)Z" } : Jvm.MethodName) prog_14_method_96_code (5 : Nat) (Option.some Jvm.ClassFile.FieldType.boolean)) ∈ BIG := tb_9 209 rfl rfl
set_option maxRecDepth 100000 in
theorem w_08959050 : (Jvm.Cond.methodLink "VerseCommitteeModel" (509 : Nat) ({ cls := "VerseCommitteeModel", name := "placeOf", desc := "(I)I" } : Jvm.MethodName)) ∈ BIG := tb_9 210 rfl rfl
set_option maxRecDepth 100000 in
theorem w_676295d7 : (Jvm.Cond.instanceMethod ({ cls := "VerseCommitteeModel", name := "placeOf", desc := "(I)I" } : Jvm.MethodName)) ∈ BIG := tb_9 212 rfl rfl
set_option maxRecDepth 100000 in
theorem w_e749e7c8 : (Jvm.Cond.code ({ cls := "VerseCommitteeModel", name := "placeOf", desc := "(I)I" } : Jvm.MethodName) prog_14_method_95_code (3 : Nat) (Option.some Jvm.ClassFile.FieldType.int)) ∈ BIG := tb_9 213 rfl rfl
set_option maxRecDepth 100000 in
theorem w_18b25828 : (Jvm.Cond.methodLink "VerseCommitteeLaw" (130 : Nat) ({ cls := "VerseCommitteeModel", name := "apart", desc := "(II)Z" } : Jvm.MethodName)) ∈ BIG := tb_9 214 rfl rfl
set_option maxRecDepth 100000 in
theorem w_d5e1b10c : (Jvm.Cond.instanceMethod ({ cls := "VerseCommitteeModel", name := "apart", desc := "(II)Z" } : Jvm.MethodName)) ∈ BIG := tb_9 215 rfl rfl
set_option maxRecDepth 100000 in
theorem w_d81a5080 : (Jvm.Cond.selects "VerseCommitteeModel" ({ cls := "VerseCommitteeModel", name := "apart", desc := "(II)Z" } : Jvm.MethodName) ({ cls := "VerseCommitteeModel", name := "apart", desc := "(II)Z" } : Jvm.MethodName)) ∈ BIG := tb_9 216 rfl rfl
set_option maxRecDepth 100000 in
theorem w_958c8ad5 : (Jvm.Cond.code ({ cls := "VerseCommitteeModel", name := "apart", desc := "(II)Z" } : Jvm.MethodName) prog_14_method_97_code (3 : Nat) (Option.some Jvm.ClassFile.FieldType.boolean)) ∈ BIG := tb_9 217 rfl rfl
set_option maxRecDepth 100000 in
theorem w_45d777e4 : (Jvm.Cond.methodLink "VerseCommitteeLaw" (134 : Nat) ({ cls := "VerseCommitteeModel", name := "cost", desc := "(I)I" } : Jvm.MethodName)) ∈ BIG := tb_9 218 rfl rfl
set_option maxRecDepth 100000 in
theorem w_ff465bcf : (Jvm.Cond.instanceMethod ({ cls := "VerseCommitteeModel", name := "cost", desc := "(I)I" } : Jvm.MethodName)) ∈ BIG := tb_9 219 rfl rfl
set_option maxRecDepth 100000 in
theorem w_202a9f26 : (Jvm.Cond.selects "VerseCommitteeModel" ({ cls := "VerseCommitteeModel", name := "cost", desc := "(I)I" } : Jvm.MethodName) ({ cls := "VerseCommitteeModel", name := "cost", desc := "(I)I" } : Jvm.MethodName)) ∈ BIG := tb_9 220 rfl rfl
set_option maxRecDepth 100000 in
theorem w_d04b287b : (Jvm.Cond.code ({ cls := "VerseCommitteeModel", name := "cost", desc := "(I)I" } : Jvm.MethodName) prog_14_method_104_code (2 : Nat) (Option.some Jvm.ClassFile.FieldType.int)) ∈ BIG := tb_9 221 rfl rfl
set_option maxRecDepth 100000 in
theorem w_1ceaa91d : (Jvm.Cond.methodLink "VerseCommitteeModel" (518 : Nat) ({ cls := "VerseCommitteeModel", name := "isChoice", desc := "(I)Z" } : Jvm.MethodName)) ∈ BIG := tb_9 222 rfl rfl
set_option maxRecDepth 100000 in
theorem w_0cefe3e6 : (Jvm.Cond.instanceMethod ({ cls := "VerseCommitteeModel", name := "isChoice", desc := "(I)Z" } : Jvm.MethodName)) ∈ BIG := tb_9 224 rfl rfl
set_option maxRecDepth 100000 in
theorem w_d7c9ef51 : (Jvm.Cond.code ({ cls := "VerseCommitteeModel", name := "isChoice", desc := "(I)Z" } : Jvm.MethodName) prog_14_method_101_code (3 : Nat) (Option.some Jvm.ClassFile.FieldType.boolean)) ∈ BIG := tb_9 225 rfl rfl
set_option maxRecDepth 100000 in
theorem w_2a7a438e : (Jvm.Cond.methodLink "VerseCommitteeModel" (515 : Nat) ({ cls := "VerseCommitteeModel", name := "digit", desc := "(III)I" } : Jvm.MethodName)) ∈ BIG := tb_9 226 rfl rfl
set_option maxRecDepth 100000 in
theorem w_187ea749 : (Jvm.Cond.static ({ cls := "VerseCommitteeModel", name := "digit", desc := "(III)I" } : Jvm.MethodName)) ∈ BIG := tb_9 227 rfl rfl
set_option maxRecDepth 100000 in
theorem w_d08feac3 : (Jvm.Cond.code ({ cls := "VerseCommitteeModel", name := "digit", desc := "(III)I" } : Jvm.MethodName) prog_14_method_100_code (5 : Nat) (Option.some Jvm.ClassFile.FieldType.int)) ∈ BIG := tb_9 228 rfl rfl
set_option maxRecDepth 100000 in
theorem w_1ccc3aa7 : (Jvm.Cond.methodLink "VerseCommitteeModel" (521 : Nat) ({ cls := "VerseCommitteeModel", name := "prices", desc := "()V" } : Jvm.MethodName)) ∈ BIG := tb_9 229 rfl rfl
set_option maxRecDepth 100000 in
theorem w_d03c283e : (Jvm.Cond.instanceMethod ({ cls := "VerseCommitteeModel", name := "prices", desc := "()V" } : Jvm.MethodName)) ∈ BIG := tb_9 231 rfl rfl
set_option maxRecDepth 100000 in
theorem w_97452904 : (Jvm.Cond.code ({ cls := "VerseCommitteeModel", name := "prices", desc := "()V" } : Jvm.MethodName) prog_14_method_99_code (6 : Nat) (Option.none : Option Jvm.ClassFile.FieldType)) ∈ BIG := tb_9 232 rfl rfl
set_option maxRecDepth 100000 in
theorem w_03aeda08 : (Jvm.Cond.methodLink "VerseCommitteeModel" (512 : Nat) ({ cls := "VerseCommitteeModel", name := "bars", desc := "(II)V" } : Jvm.MethodName)) ∈ BIG := tb_9 233 rfl rfl
set_option maxRecDepth 100000 in
theorem w_55b6b073 : (Jvm.Cond.instanceMethod ({ cls := "VerseCommitteeModel", name := "bars", desc := "(II)V" } : Jvm.MethodName)) ∈ BIG := tb_9 235 rfl rfl
set_option maxRecDepth 100000 in
theorem w_130f2a7f : (Jvm.Cond.code ({ cls := "VerseCommitteeModel", name := "bars", desc := "(II)V" } : Jvm.MethodName) prog_14_method_98_code (7 : Nat) (Option.none : Option Jvm.ClassFile.FieldType)) ∈ BIG := tb_9 236 rfl rfl
set_option maxRecDepth 100000 in
theorem w_d4292090 : (Jvm.Cond.methodLink "VerseCommitteeModel" (524 : Nat) ({ cls := "VerseCommitteeModel", name := "mayBe", desc := "(I)Z" } : Jvm.MethodName)) ∈ BIG := tb_9 237 rfl rfl
set_option maxRecDepth 100000 in
theorem w_a942fe80 : (Jvm.Cond.instanceMethod ({ cls := "VerseCommitteeModel", name := "mayBe", desc := "(I)Z" } : Jvm.MethodName)) ∈ BIG := tb_9 239 rfl rfl
set_option maxRecDepth 100000 in
theorem w_d9609d05 : (Jvm.Cond.code ({ cls := "VerseCommitteeModel", name := "mayBe", desc := "(I)Z" } : Jvm.MethodName) prog_14_method_102_code (5 : Nat) (Option.some Jvm.ClassFile.FieldType.boolean)) ∈ BIG := tb_10 0 rfl rfl
set_option maxRecDepth 100000 in
theorem w_350a7efc : (Jvm.Cond.methodLink "VerseCommitteeModel" (527 : Nat) ({ cls := "VerseCommitteeModel", name := "costOf", desc := "(I)I" } : Jvm.MethodName)) ∈ BIG := tb_10 1 rfl rfl
set_option maxRecDepth 100000 in
theorem w_2978b51a : (Jvm.Cond.instanceMethod ({ cls := "VerseCommitteeModel", name := "costOf", desc := "(I)I" } : Jvm.MethodName)) ∈ BIG := tb_10 3 rfl rfl
set_option maxRecDepth 100000 in
theorem w_242a56b2 : (Jvm.Cond.code ({ cls := "VerseCommitteeModel", name := "costOf", desc := "(I)I" } : Jvm.MethodName) prog_14_method_103_code (4 : Nat) (Option.some Jvm.ClassFile.FieldType.int)) ∈ BIG := tb_10 4 rfl rfl
set_option maxRecDepth 100000 in
theorem w_0b692a03 : (Jvm.Cond.methodLink "VerseCommitteeLaw" (139 : Nat) ({ cls := "VerseCommitteeModel", name := "one", desc := "()I" } : Jvm.MethodName)) ∈ BIG := tb_10 5 rfl rfl
set_option maxRecDepth 100000 in
theorem w_8720f3e8 : (Jvm.Cond.instanceMethod ({ cls := "VerseCommitteeModel", name := "one", desc := "()I" } : Jvm.MethodName)) ∈ BIG := tb_10 6 rfl rfl
set_option maxRecDepth 100000 in
theorem w_bbea2c1d : (Jvm.Cond.selects "VerseCommitteeModel" ({ cls := "VerseCommitteeModel", name := "one", desc := "()I" } : Jvm.MethodName) ({ cls := "VerseCommitteeModel", name := "one", desc := "()I" } : Jvm.MethodName)) ∈ BIG := tb_10 7 rfl rfl
set_option maxRecDepth 100000 in
theorem w_9c9cd915 : (Jvm.Cond.code ({ cls := "VerseCommitteeModel", name := "one", desc := "()I" } : Jvm.MethodName) prog_14_method_106_code (3 : Nat) (Option.some Jvm.ClassFile.FieldType.int)) ∈ BIG := tb_10 8 rfl rfl
set_option maxRecDepth 100000 in
theorem w_bb3c59cb : (Jvm.Cond.methodLink "VerseCommitteeModel" (530 : Nat) ({ cls := "VerseCommitteeModel", name := "isAhead", desc := "(IIII)Z" } : Jvm.MethodName)) ∈ BIG := tb_10 9 rfl rfl
set_option maxRecDepth 100000 in
theorem w_10938217 : (Jvm.Cond.instanceMethod ({ cls := "VerseCommitteeModel", name := "isAhead", desc := "(IIII)Z" } : Jvm.MethodName)) ∈ BIG := tb_10 11 rfl rfl
set_option maxRecDepth 100000 in
theorem w_f50e1035 : (Jvm.Cond.code ({ cls := "VerseCommitteeModel", name := "isAhead", desc := "(IIII)Z" } : Jvm.MethodName) prog_14_method_105_code (6 : Nat) (Option.some Jvm.ClassFile.FieldType.boolean)) ∈ BIG := tb_10 12 rfl rfl
set_option maxRecDepth 100000 in
theorem w_e443e065 : (Jvm.Cond.methodLink "VerseCommitteeLaw" (143 : Nat) ({ cls := "VerseCommitteeModel", name := "line", desc := "(I)I" } : Jvm.MethodName)) ∈ BIG := tb_10 13 rfl rfl
set_option maxRecDepth 100000 in
theorem w_a30cd829 : (Jvm.Cond.instanceMethod ({ cls := "VerseCommitteeModel", name := "line", desc := "(I)I" } : Jvm.MethodName)) ∈ BIG := tb_10 14 rfl rfl
set_option maxRecDepth 100000 in
theorem w_1f20460e : (Jvm.Cond.selects "VerseCommitteeModel" ({ cls := "VerseCommitteeModel", name := "line", desc := "(I)I" } : Jvm.MethodName) ({ cls := "VerseCommitteeModel", name := "line", desc := "(I)I" } : Jvm.MethodName)) ∈ BIG := tb_10 15 rfl rfl
set_option maxRecDepth 100000 in
theorem w_fdf4bdd8 : (Jvm.Cond.code ({ cls := "VerseCommitteeModel", name := "line", desc := "(I)I" } : Jvm.MethodName) prog_14_method_108_code (4 : Nat) (Option.some Jvm.ClassFile.FieldType.int)) ∈ BIG := tb_10 16 rfl rfl
set_option maxRecDepth 100000 in
theorem w_29bf730b : (Jvm.Cond.methodLink "VerseCommitteeModel" (533 : Nat) ({ cls := "VerseCommitteeModel", name := "isOff", desc := "(I)Z" } : Jvm.MethodName)) ∈ BIG := tb_10 17 rfl rfl
set_option maxRecDepth 100000 in
theorem w_d7308a6b : (Jvm.Cond.instanceMethod ({ cls := "VerseCommitteeModel", name := "isOff", desc := "(I)Z" } : Jvm.MethodName)) ∈ BIG := tb_10 19 rfl rfl
set_option maxRecDepth 100000 in
theorem w_b08b87df : (Jvm.Cond.code ({ cls := "VerseCommitteeModel", name := "isOff", desc := "(I)Z" } : Jvm.MethodName) prog_14_method_107_code (5 : Nat) (Option.some Jvm.ClassFile.FieldType.boolean)) ∈ BIG := tb_10 20 rfl rfl
set_option maxRecDepth 100000 in
theorem w_cdd03d04 : (Jvm.Cond.methodLink "VerseCommitteeLaw" (148 : Nat) ({ cls := "VerseCommitteeModel", name := "reads", desc := "(IIIZ)Z" } : Jvm.MethodName)) ∈ BIG := tb_10 21 rfl rfl
set_option maxRecDepth 100000 in
theorem w_1171cfdc : (Jvm.Cond.instanceMethod ({ cls := "VerseCommitteeModel", name := "reads", desc := "(IIIZ)Z" } : Jvm.MethodName)) ∈ BIG := tb_10 22 rfl rfl
set_option maxRecDepth 100000 in
theorem w_c38b64d7 : (Jvm.Cond.selects "VerseCommitteeModel" ({ cls := "VerseCommitteeModel", name := "reads", desc := "(IIIZ)Z" } : Jvm.MethodName) ({ cls := "VerseCommitteeModel", name := "reads", desc := "(IIIZ)Z" } : Jvm.MethodName)) ∈ BIG := tb_10 23 rfl rfl
set_option maxRecDepth 100000 in
theorem w_1eff1062 : (Jvm.Cond.code ({ cls := "VerseCommitteeModel", name := "reads", desc := "(IIIZ)Z" } : Jvm.MethodName) prog_14_method_109_code (5 : Nat) (Option.some Jvm.ClassFile.FieldType.boolean)) ∈ BIG := tb_10 24 rfl rfl
set_option maxRecDepth 100000 in
theorem w_3ada0b38 : (Jvm.Cond.methodLink "VerseCommitteeLaw" (152 : Nat) ({ cls := "VerseCommitteeModel", name := "missed", desc := "(I)I" } : Jvm.MethodName)) ∈ BIG := tb_10 25 rfl rfl
set_option maxRecDepth 100000 in
theorem w_68ea8f5d : (Jvm.Cond.instanceMethod ({ cls := "VerseCommitteeModel", name := "missed", desc := "(I)I" } : Jvm.MethodName)) ∈ BIG := tb_10 26 rfl rfl
set_option maxRecDepth 100000 in
theorem w_2e1985d3 : (Jvm.Cond.selects "VerseCommitteeModel" ({ cls := "VerseCommitteeModel", name := "missed", desc := "(I)I" } : Jvm.MethodName) ({ cls := "VerseCommitteeModel", name := "missed", desc := "(I)I" } : Jvm.MethodName)) ∈ BIG := tb_10 27 rfl rfl
set_option maxRecDepth 100000 in
theorem w_f9bc67f6 : (Jvm.Cond.code ({ cls := "VerseCommitteeModel", name := "missed", desc := "(I)I" } : Jvm.MethodName) prog_14_method_111_code (6 : Nat) (Option.some Jvm.ClassFile.FieldType.int)) ∈ BIG := tb_10 28 rfl rfl
set_option maxRecDepth 100000 in
theorem w_116bc0b8 : (Jvm.Cond.methodLink "VerseCommitteeModel" (536 : Nat) ({ cls := "VerseCommitteeModel", name := "sizeOf", desc := "(I)I" } : Jvm.MethodName)) ∈ BIG := tb_10 29 rfl rfl
set_option maxRecDepth 100000 in
theorem w_34509292 : (Jvm.Cond.static ({ cls := "VerseCommitteeModel", name := "sizeOf", desc := "(I)I" } : Jvm.MethodName)) ∈ BIG := tb_10 30 rfl rfl
set_option maxRecDepth 100000 in
theorem w_444d112d : (Jvm.Cond.code ({ cls := "VerseCommitteeModel", name := "sizeOf", desc := "(I)I" } : Jvm.MethodName) prog_14_method_110_code (3 : Nat) (Option.some Jvm.ClassFile.FieldType.int)) ∈ BIG := tb_10 31 rfl rfl
set_option maxRecDepth 100000 in
theorem w_df7873e0 : (Jvm.Cond.methodLink "VerseCommitteeLaw" (156 : Nat) ({ cls := "VerseCommitteeModel", name := "changes", desc := "(III)I" } : Jvm.MethodName)) ∈ BIG := tb_10 32 rfl rfl
set_option maxRecDepth 100000 in
theorem w_1b98a3c6 : (Jvm.Cond.instanceMethod ({ cls := "VerseCommitteeModel", name := "changes", desc := "(III)I" } : Jvm.MethodName)) ∈ BIG := tb_10 33 rfl rfl
set_option maxRecDepth 100000 in
theorem w_0bbd7081 : (Jvm.Cond.selects "VerseCommitteeModel" ({ cls := "VerseCommitteeModel", name := "changes", desc := "(III)I" } : Jvm.MethodName) ({ cls := "VerseCommitteeModel", name := "changes", desc := "(III)I" } : Jvm.MethodName)) ∈ BIG := tb_10 34 rfl rfl
set_option maxRecDepth 100000 in
theorem w_b284aa51 : (Jvm.Cond.code ({ cls := "VerseCommitteeModel", name := "changes", desc := "(III)I" } : Jvm.MethodName) prog_14_method_112_code (7 : Nat) (Option.some Jvm.ClassFile.FieldType.int)) ∈ BIG := tb_10 35 rfl rfl
set_option maxRecDepth 100000 in
theorem w_99934f7b : (Jvm.Cond.methodLink "VerseCommitteeLaw" (160 : Nat) ({ cls := "VerseCommitteeModel", name := "printed", desc := "(III)I" } : Jvm.MethodName)) ∈ BIG := tb_10 36 rfl rfl
set_option maxRecDepth 100000 in
theorem w_4d28261f : (Jvm.Cond.instanceMethod ({ cls := "VerseCommitteeModel", name := "printed", desc := "(III)I" } : Jvm.MethodName)) ∈ BIG := tb_10 37 rfl rfl
set_option maxRecDepth 100000 in
theorem w_c5a7ecb1 : (Jvm.Cond.selects "VerseCommitteeModel" ({ cls := "VerseCommitteeModel", name := "printed", desc := "(III)I" } : Jvm.MethodName) ({ cls := "VerseCommitteeModel", name := "printed", desc := "(III)I" } : Jvm.MethodName)) ∈ BIG := tb_10 38 rfl rfl
set_option maxRecDepth 100000 in
theorem w_7118a7bd : (Jvm.Cond.code ({ cls := "VerseCommitteeModel", name := "printed", desc := "(III)I" } : Jvm.MethodName) prog_14_method_114_code (8 : Nat) (Option.some Jvm.ClassFile.FieldType.int)) ∈ BIG := tb_10 39 rfl rfl
set_option maxRecDepth 100000 in
theorem w_16521dd3 : (Jvm.Cond.methodLink "VerseCommitteeModel" (542 : Nat) ({ cls := "VerseCommitteeModel", name := "prints", desc := "(I)V" } : Jvm.MethodName)) ∈ BIG := tb_10 40 rfl rfl
set_option maxRecDepth 100000 in
theorem w_fb03e915 : (Jvm.Cond.instanceMethod ({ cls := "VerseCommitteeModel", name := "prints", desc := "(I)V" } : Jvm.MethodName)) ∈ BIG := tb_10 42 rfl rfl
set_option maxRecDepth 100000 in
theorem w_f1ec5025 : (Jvm.Cond.code ({ cls := "VerseCommitteeModel", name := "prints", desc := "(I)V" } : Jvm.MethodName) prog_14_method_113_code (2 : Nat) (Option.none : Option Jvm.ClassFile.FieldType)) ∈ BIG := tb_10 43 rfl rfl
set_option maxRecDepth 100000 in
theorem w_4e596cf3 : (Jvm.Cond.methodLink "VerseCommitteeLaw" (164 : Nat) ({ cls := "VerseCommitteeModel", name := "plan", desc := "(I)I" } : Jvm.MethodName)) ∈ BIG := tb_10 44 rfl rfl
set_option maxRecDepth 100000 in
theorem w_1b462366 : (Jvm.Cond.instanceMethod ({ cls := "VerseCommitteeModel", name := "plan", desc := "(I)I" } : Jvm.MethodName)) ∈ BIG := tb_10 45 rfl rfl
set_option maxRecDepth 100000 in
theorem w_22a7dd5c : (Jvm.Cond.selects "VerseCommitteeModel" ({ cls := "VerseCommitteeModel", name := "plan", desc := "(I)I" } : Jvm.MethodName) ({ cls := "VerseCommitteeModel", name := "plan", desc := "(I)I" } : Jvm.MethodName)) ∈ BIG := tb_10 46 rfl rfl
set_option maxRecDepth 100000 in
theorem w_b644a665 : (Jvm.Cond.code ({ cls := "VerseCommitteeModel", name := "plan", desc := "(I)I" } : Jvm.MethodName) prog_14_method_120_code (3 : Nat) (Option.some Jvm.ClassFile.FieldType.int)) ∈ BIG := tb_10 47 rfl rfl
set_option maxRecDepth 100000 in
theorem w_586dfefc : (Jvm.Cond.methodLink "VerseCommitteeModel" (560 : Nat) ({ cls := "VerseCommitteeModel", name := "lists", desc := "()V" } : Jvm.MethodName)) ∈ BIG := tb_10 48 rfl rfl
set_option maxRecDepth 100000 in
theorem w_aa40d33e : (Jvm.Cond.instanceMethod ({ cls := "VerseCommitteeModel", name := "lists", desc := "()V" } : Jvm.MethodName)) ∈ BIG := tb_10 50 rfl rfl
set_option maxRecDepth 100000 in
theorem w_76486524 : (Jvm.Cond.code ({ cls := "VerseCommitteeModel", name := "lists", desc := "()V" } : Jvm.MethodName) prog_14_method_115_code (4 : Nat) (Option.none : Option Jvm.ClassFile.FieldType)) ∈ BIG := tb_10 51 rfl rfl
set_option maxRecDepth 100000 in
theorem w_3b253f40 : (Jvm.Cond.methodLink "VerseCommitteeModel" (563 : Nat) ({ cls := "VerseCommitteeModel", name := "bestRow", desc := "()I" } : Jvm.MethodName)) ∈ BIG := tb_10 52 rfl rfl
set_option maxRecDepth 100000 in
theorem w_18c2f3fb : (Jvm.Cond.instanceMethod ({ cls := "VerseCommitteeModel", name := "bestRow", desc := "()I" } : Jvm.MethodName)) ∈ BIG := tb_10 54 rfl rfl
set_option maxRecDepth 100000 in
theorem w_e27243d3 : (Jvm.Cond.code ({ cls := "VerseCommitteeModel", name := "bestRow", desc := "()I" } : Jvm.MethodName) prog_14_method_119_code (5 : Nat) (Option.some Jvm.ClassFile.FieldType.int)) ∈ BIG := tb_10 55 rfl rfl
set_option maxRecDepth 100000 in
theorem w_42e0f277 : (Jvm.Cond.methodLink "VerseCommitteeModel" (554 : Nat) ({ cls := "VerseCommitteeModel", name := "rows", desc := "()I" } : Jvm.MethodName)) ∈ BIG := tb_10 56 rfl rfl
set_option maxRecDepth 100000 in
theorem w_13daddd5 : (Jvm.Cond.instanceMethod ({ cls := "VerseCommitteeModel", name := "rows", desc := "()I" } : Jvm.MethodName)) ∈ BIG := tb_10 58 rfl rfl
set_option maxRecDepth 100000 in
theorem w_fb49a272 : (Jvm.Cond.code ({ cls := "VerseCommitteeModel", name := "rows", desc := "()I" } : Jvm.MethodName) prog_14_method_118_code (3 : Nat) (Option.some Jvm.ClassFile.FieldType.int)) ∈ BIG := tb_10 59 rfl rfl
set_option maxRecDepth 100000 in
theorem w_9e316cc8 : (Jvm.Cond.methodLink "VerseCommitteeModel" (557 : Nat) ({ cls := "VerseCommitteeModel", name := "daysBy", desc := "(I)I" } : Jvm.MethodName)) ∈ BIG := tb_10 60 rfl rfl
set_option maxRecDepth 100000 in
theorem w_2512803d : (Jvm.Cond.instanceMethod ({ cls := "VerseCommitteeModel", name := "daysBy", desc := "(I)I" } : Jvm.MethodName)) ∈ BIG := tb_10 62 rfl rfl
set_option maxRecDepth 100000 in
theorem w_b7e1fe03 : (Jvm.Cond.code ({ cls := "VerseCommitteeModel", name := "daysBy", desc := "(I)I" } : Jvm.MethodName) prog_14_method_117_code (5 : Nat) (Option.some Jvm.ClassFile.FieldType.int)) ∈ BIG := tb_10 63 rfl rfl
set_option maxRecDepth 100000 in
theorem w_817678f1 : (Jvm.Cond.methodLink "VerseCommitteeModel" (551 : Nat) ({ cls := "VerseCommitteeModel", name := "up", desc := "(II)I" } : Jvm.MethodName)) ∈ BIG := tb_10 64 rfl rfl
set_option maxRecDepth 100000 in
theorem w_0d2af3a4 : (Jvm.Cond.static ({ cls := "VerseCommitteeModel", name := "up", desc := "(II)I" } : Jvm.MethodName)) ∈ BIG := tb_10 65 rfl rfl
set_option maxRecDepth 100000 in
theorem w_b5ff089f : (Jvm.Cond.code ({ cls := "VerseCommitteeModel", name := "up", desc := "(II)I" } : Jvm.MethodName) prog_14_method_116_code (2 : Nat) (Option.some Jvm.ClassFile.FieldType.int)) ∈ BIG := tb_10 66 rfl rfl
set_option maxRecDepth 100000 in
theorem w_60da40ad : (Jvm.Cond.methodLink "VerseCommitteeLaw" (168 : Nat) ({ cls := "VerseCommitteeModel", name := "judge", desc := "(I)I" } : Jvm.MethodName)) ∈ BIG := tb_10 67 rfl rfl
set_option maxRecDepth 100000 in
theorem w_c1814d2f : (Jvm.Cond.instanceMethod ({ cls := "VerseCommitteeModel", name := "judge", desc := "(I)I" } : Jvm.MethodName)) ∈ BIG := tb_10 68 rfl rfl
set_option maxRecDepth 100000 in
theorem w_5f51de32 : (Jvm.Cond.selects "VerseCommitteeModel" ({ cls := "VerseCommitteeModel", name := "judge", desc := "(I)I" } : Jvm.MethodName) ({ cls := "VerseCommitteeModel", name := "judge", desc := "(I)I" } : Jvm.MethodName)) ∈ BIG := tb_10 69 rfl rfl
set_option maxRecDepth 100000 in
theorem w_5f7cd6a1 : (Jvm.Cond.code ({ cls := "VerseCommitteeModel", name := "judge", desc := "(I)I" } : Jvm.MethodName) prog_14_method_121_code (2 : Nat) (Option.some Jvm.ClassFile.FieldType.int)) ∈ BIG := tb_10 70 rfl rfl
set_option maxRecDepth 100000 in
theorem w_a3c50f04 : (Jvm.Cond.methodLink "VerseCommitteeLaw" (172 : Nat) ({ cls := "VerseCommitteeModel", name := "check", desc := "(I)I" } : Jvm.MethodName)) ∈ BIG := tb_10 71 rfl rfl
set_option maxRecDepth 100000 in
theorem w_03273d90 : (Jvm.Cond.instanceMethod ({ cls := "VerseCommitteeModel", name := "check", desc := "(I)I" } : Jvm.MethodName)) ∈ BIG := tb_10 72 rfl rfl
set_option maxRecDepth 100000 in
theorem w_dcccdb64 : (Jvm.Cond.selects "VerseCommitteeModel" ({ cls := "VerseCommitteeModel", name := "check", desc := "(I)I" } : Jvm.MethodName) ({ cls := "VerseCommitteeModel", name := "check", desc := "(I)I" } : Jvm.MethodName)) ∈ BIG := tb_10 73 rfl rfl
set_option maxRecDepth 100000 in
theorem w_d461cfbe : (Jvm.Cond.code ({ cls := "VerseCommitteeModel", name := "check", desc := "(I)I" } : Jvm.MethodName) prog_14_method_123_code (4 : Nat) (Option.some Jvm.ClassFile.FieldType.int)) ∈ BIG := tb_10 74 rfl rfl
set_option maxRecDepth 100000 in
theorem w_4411d7d4 : (Jvm.Cond.methodLink "VerseCommitteeModel" (566 : Nat) ({ cls := "VerseCommitteeModel", name := "fixedVerse", desc := "(I)I" } : Jvm.MethodName)) ∈ BIG := tb_10 75 rfl rfl
set_option maxRecDepth 100000 in
theorem w_1f3a82c8 : (Jvm.Cond.instanceMethod ({ cls := "VerseCommitteeModel", name := "fixedVerse", desc := "(I)I" } : Jvm.MethodName)) ∈ BIG := tb_10 77 rfl rfl
set_option maxRecDepth 100000 in
theorem w_e710e1eb : (Jvm.Cond.code ({ cls := "VerseCommitteeModel", name := "fixedVerse", desc := "(I)I" } : Jvm.MethodName) prog_14_method_122_code (4 : Nat) (Option.some Jvm.ClassFile.FieldType.int)) ∈ BIG := tb_10 78 rfl rfl
set_option maxRecDepth 100000 in
theorem w_80a3a4ef : (Jvm.Cond.methodLink "VerseCommitteeLaw" (176 : Nat) ({ cls := "VerseCommitteeModel", name := "look", desc := "(II)I" } : Jvm.MethodName)) ∈ BIG := tb_10 79 rfl rfl
set_option maxRecDepth 100000 in
theorem w_78ad546b : (Jvm.Cond.instanceMethod ({ cls := "VerseCommitteeModel", name := "look", desc := "(II)I" } : Jvm.MethodName)) ∈ BIG := tb_10 80 rfl rfl
set_option maxRecDepth 100000 in
theorem w_962c258c : (Jvm.Cond.selects "VerseCommitteeModel" ({ cls := "VerseCommitteeModel", name := "look", desc := "(II)I" } : Jvm.MethodName) ({ cls := "VerseCommitteeModel", name := "look", desc := "(II)I" } : Jvm.MethodName)) ∈ BIG := tb_10 81 rfl rfl
set_option maxRecDepth 100000 in
theorem w_eb0e6bd5 : (Jvm.Cond.code ({ cls := "VerseCommitteeModel", name := "look", desc := "(II)I" } : Jvm.MethodName) prog_14_method_125_code (3 : Nat) (Option.some Jvm.ClassFile.FieldType.int)) ∈ BIG := tb_10 82 rfl rfl
set_option maxRecDepth 100000 in
theorem w_82ac92be : (Jvm.Cond.methodLink "VerseCommitteeModel" (569 : Nat) ({ cls := "VerseCommitteeModel", name := "leftOf", desc := "(I)I" } : Jvm.MethodName)) ∈ BIG := tb_10 83 rfl rfl
set_option maxRecDepth 100000 in
theorem w_7a1d6889 : (Jvm.Cond.instanceMethod ({ cls := "VerseCommitteeModel", name := "leftOf", desc := "(I)I" } : Jvm.MethodName)) ∈ BIG := tb_10 85 rfl rfl
set_option maxRecDepth 100000 in
theorem w_9f3d74bc : (Jvm.Cond.code ({ cls := "VerseCommitteeModel", name := "leftOf", desc := "(I)I" } : Jvm.MethodName) prog_14_method_124_code (4 : Nat) (Option.some Jvm.ClassFile.FieldType.int)) ∈ BIG := tb_10 86 rfl rfl
set_option maxRecDepth 100000 in
theorem w_ebcc6d96 : (Jvm.Cond.methodLink "VerseCommitteeLaw" (180 : Nat) ({ cls := "VerseCommitteeModel", name := "count", desc := "(I)I" } : Jvm.MethodName)) ∈ BIG := tb_10 87 rfl rfl
set_option maxRecDepth 100000 in
theorem w_e47e9ced : (Jvm.Cond.instanceMethod ({ cls := "VerseCommitteeModel", name := "count", desc := "(I)I" } : Jvm.MethodName)) ∈ BIG := tb_10 88 rfl rfl
set_option maxRecDepth 100000 in
theorem w_29074c8d : (Jvm.Cond.selects "VerseCommitteeModel" ({ cls := "VerseCommitteeModel", name := "count", desc := "(I)I" } : Jvm.MethodName) ({ cls := "VerseCommitteeModel", name := "count", desc := "(I)I" } : Jvm.MethodName)) ∈ BIG := tb_10 89 rfl rfl
set_option maxRecDepth 100000 in
theorem w_358533c9 : (Jvm.Cond.code ({ cls := "VerseCommitteeModel", name := "count", desc := "(I)I" } : Jvm.MethodName) prog_14_method_126_code (4 : Nat) (Option.some Jvm.ClassFile.FieldType.int)) ∈ BIG := tb_10 90 rfl rfl
