/-! words of the tables by their places, classes, worlds, numbers -/
theorem ms_53 : (Jvm.Cond.selects "VerseCommittee$Choices" ({ cls := "VerseCommittee$Choices", name := "arePart", desc := "(II)Z" } : Jvm.MethodName) ({ cls := "VerseCommittee$Choices", name := "arePart", desc := "(II)Z" } : Jvm.MethodName)) ∈ BIG := big_mem 53 (by decide +kernel) rfl
theorem ms_59 : (Jvm.Cond.selects "VerseCommittee$Choices" ({ cls := "VerseCommittee$Choices", name := "choose", desc := "(II)V" } : Jvm.MethodName) ({ cls := "VerseCommittee$Choices", name := "choose", desc := "(II)V" } : Jvm.MethodName)) ∈ BIG := big_mem 59 (by decide +kernel) rfl
theorem ms_60 : (Jvm.Cond.selects "VerseCommittee$Choices" ({ cls := "VerseCommittee$Choices", name := "choiceOfRow", desc := "()I" } : Jvm.MethodName) ({ cls := "VerseCommittee$Choices", name := "choiceOfRow", desc := "()I" } : Jvm.MethodName)) ∈ BIG := big_mem 60 (by decide +kernel) rfl
theorem ms_66 : (Jvm.Cond.selects "VerseCommittee$Planner" ({ cls := "VerseCommittee$Planner", name := "gatherBooks", desc := "()V" } : Jvm.MethodName) ({ cls := "VerseCommittee$Planner", name := "gatherBooks", desc := "()V" } : Jvm.MethodName)) ∈ BIG := big_mem 66 (by decide +kernel) rfl
theorem ms_67 : (Jvm.Cond.selects "VerseCommittee$Planner" ({ cls := "VerseCommittee$Planner", name := "daysOfCentre", desc := "()I" } : Jvm.MethodName) ({ cls := "VerseCommittee$Planner", name := "daysOfCentre", desc := "()I" } : Jvm.MethodName)) ∈ BIG := big_mem 67 (by decide +kernel) rfl
theorem ms_68 : (Jvm.Cond.selects "VerseCommittee$Planner" ({ cls := "VerseCommittee$Planner", name := "give", desc := "(II)V" } : Jvm.MethodName) ({ cls := "VerseCommittee$Planner", name := "give", desc := "(II)V" } : Jvm.MethodName)) ∈ BIG := big_mem 68 (by decide +kernel) rfl
theorem mw_3 : (Jvm.Cond.initialized "VerseCommittee$Verses") ∈ BIG := big_mem 151 (by decide +kernel) rfl
theorem mw_5 : (Jvm.Cond.initialized "VerseCommittee$Laws") ∈ BIG := big_mem 153 (by decide +kernel) rfl
theorem mw_6 : (Jvm.Cond.initialized "VerseCommittee$Shelf") ∈ BIG := big_mem 154 (by decide +kernel) rfl
theorem mw_10 : (Jvm.Cond.initialized "VerseCommittee$Choices") ∈ BIG := big_mem 158 (by decide +kernel) rfl
theorem mw_11 : (Jvm.Cond.initialized "VerseCommittee$Planner") ∈ BIG := big_mem 159 (by decide +kernel) rfl
theorem mw_32 : (Jvm.Cond.fieldLink "VerseCommittee$Words" (18 : Nat) "VerseCommittee$Words" "size" "I") ∈ BIG := big_mem 180 (by decide +kernel) rfl
theorem mw_50 : (Jvm.Cond.fieldLink "VerseCommittee$Verses" (9 : Nat) "VerseCommittee$Verses" "books" "[I") ∈ BIG := big_mem 198 (by decide +kernel) rfl
theorem mw_51 : (Jvm.Cond.fieldLink "VerseCommittee$Verses" (15 : Nat) "VerseCommittee$Verses" "measures" "[I") ∈ BIG := big_mem 199 (by decide +kernel) rfl
theorem mw_55 : (Jvm.Cond.fieldLink "VerseCommittee$Verses" (29 : Nat) "VerseCommittee$Verses" "size" "I") ∈ BIG := big_mem 203 (by decide +kernel) rfl
theorem mw_75 : (Jvm.Cond.fieldLink "VerseCommittee$People" (11 : Nat) "VerseCommittee$People" "books" "[I") ∈ BIG := big_mem 223 (by decide +kernel) rfl
theorem mw_76 : (Jvm.Cond.fieldLink "VerseCommittee$People" (15 : Nat) "VerseCommittee$People" "rates" "[I") ∈ BIG := big_mem 224 (by decide +kernel) rfl
theorem mw_79 : (Jvm.Cond.fieldLink "VerseCommittee$People" (35 : Nat) "VerseCommittee$People" "centreRate" "I") ∈ BIG := big_mem 227 (by decide +kernel) rfl
theorem mw_80 : (Jvm.Cond.fieldLink "VerseCommittee$People" (21 : Nat) "VerseCommittee$People" "companies" "I") ∈ BIG := big_mem 228 (by decide +kernel) rfl
theorem mw_81 : (Jvm.Cond.fieldLink "VerseCommittee$People" (25 : Nat) "VerseCommittee$People" "scholars" "I") ∈ BIG := big_mem 229 (by decide +kernel) rfl
theorem mw_117 : (Jvm.Cond.fieldLink "VerseCommittee$Laws" (44 : Nat) "VerseCommittee$Laws" "size" "I") ∈ BIG := big_mem 265 (by decide +kernel) rfl
theorem mw_150 : (Jvm.Cond.fieldLink "VerseCommittee$Shelf" (17 : Nat) "VerseCommittee$Shelf" "fixedOf" "[I") ∈ BIG := big_mem 298 (by decide +kernel) rfl
theorem mw_154 : (Jvm.Cond.fieldLink "VerseCommittee$Shelf" (30 : Nat) "VerseCommittee$Shelf" "size" "I") ∈ BIG := big_mem 302 (by decide +kernel) rfl
theorem mw_155 : (Jvm.Cond.fieldLink "VerseCommittee$Shelf" (46 : Nat) "VerseCommittee$Shelf" "turns" "I") ∈ BIG := big_mem 303 (by decide +kernel) rfl
theorem mw_258 : (Jvm.Cond.fieldLink "VerseCommittee$Findings" (37 : Nat) "VerseCommittee$Findings" "verses" "LVerseCommittee$Verses;") ∈ BIG := big_mem 406 (by decide +kernel) rfl
theorem mw_268 : (Jvm.Cond.fieldLink "VerseCommittee$Findings" (133 : Nat) "VerseCommittee$Findings" "places" "I") ∈ BIG := big_mem 416 (by decide +kernel) rfl
theorem mw_269 : (Jvm.Cond.fieldLink "VerseCommittee$Findings" (49 : Nat) "VerseCommittee$Findings" "seen" "I") ∈ BIG := big_mem 417 (by decide +kernel) rfl
theorem mw_311 : (Jvm.Cond.fieldLink "VerseCommittee$Choices" (21 : Nat) "VerseCommittee$Choices" "parted" "[J") ∈ BIG := big_mem 459 (by decide +kernel) rfl
theorem mw_312 : (Jvm.Cond.fieldLink "VerseCommittee$Choices" (25 : Nat) "VerseCommittee$Choices" "prices" "[I") ∈ BIG := big_mem 460 (by decide +kernel) rfl
theorem mw_313 : (Jvm.Cond.fieldLink "VerseCommittee$Choices" (28 : Nat) "VerseCommittee$Choices" "barred" "[Z") ∈ BIG := big_mem 461 (by decide +kernel) rfl
theorem mw_315 : (Jvm.Cond.fieldLink "VerseCommittee$Choices" (51 : Nat) "VerseCommittee$Choices" "size" "I") ∈ BIG := big_mem 463 (by decide +kernel) rfl
theorem mw_316 : (Jvm.Cond.fieldLink "VerseCommittee$Choices" (71 : Nat) "VerseCommittee$Choices" "bestPrice" "I") ∈ BIG := big_mem 464 (by decide +kernel) rfl
theorem mw_317 : (Jvm.Cond.fieldLink "VerseCommittee$Choices" (74 : Nat) "VerseCommittee$Choices" "bestChoice" "I") ∈ BIG := big_mem 465 (by decide +kernel) rfl
theorem mw_354 : (Jvm.Cond.fieldLink "VerseCommittee$Planner" (29 : Nat) "VerseCommittee$Planner" "verses" "LVerseCommittee$Verses;") ∈ BIG := big_mem 502 (by decide +kernel) rfl
theorem mw_357 : (Jvm.Cond.fieldLink "VerseCommittee$Planner" (11 : Nat) "VerseCommittee$Planner" "open" "[I") ∈ BIG := big_mem 505 (by decide +kernel) rfl
theorem mw_359 : (Jvm.Cond.fieldLink "VerseCommittee$Planner" (20 : Nat) "VerseCommittee$Planner" "loads" "[I") ∈ BIG := big_mem 507 (by decide +kernel) rfl
theorem mw_362 : (Jvm.Cond.fieldLink "VerseCommittee$Planner" (57 : Nat) "VerseCommittee$Planner" "size" "I") ∈ BIG := big_mem 510 (by decide +kernel) rfl
theorem mw_363 : (Jvm.Cond.fieldLink "VerseCommittee$Planner" (45 : Nat) "VerseCommittee$Planner" "bestDays" "I") ∈ BIG := big_mem 511 (by decide +kernel) rfl
theorem mw_385 : (Jvm.Cond.fieldLink "VerseCommittee" (9 : Nat) "VerseCommittee" "tape" "[I") ∈ BIG := big_mem 533 (by decide +kernel) rfl
theorem mw_397 : (Jvm.Cond.fieldLink "VerseCommittee" (102 : Nat) "VerseCommittee" "taped" "I") ∈ BIG := big_mem 545 (by decide +kernel) rfl
theorem mw_398 : (Jvm.Cond.fieldLink "VerseCommittee" (98 : Nat) "VerseCommittee" "today" "I") ∈ BIG := big_mem 546 (by decide +kernel) rfl
theorem mw_690 : (Jvm.Cond.methodLink "VerseCommittee$Laws" (48 : Nat) ({ cls := "VerseCommittee$Laws", name := "clausesOf", desc := "(I)I" } : Jvm.MethodName)) ∈ BIG := big_mem 838 (by decide +kernel) rfl
theorem mw_691 : (Jvm.Cond.instanceMethod ({ cls := "VerseCommittee$Laws", name := "clausesOf", desc := "(I)I" } : Jvm.MethodName)) ∈ BIG := big_mem 839 (by decide +kernel) rfl
theorem mw_692 : (Jvm.Cond.selects "VerseCommittee$Laws" ({ cls := "VerseCommittee$Laws", name := "clausesOf", desc := "(I)I" } : Jvm.MethodName) ({ cls := "VerseCommittee$Laws", name := "clausesOf", desc := "(I)I" } : Jvm.MethodName)) ∈ BIG := big_mem 840 (by decide +kernel) rfl
theorem mw_693 : (Jvm.Cond.code ({ cls := "VerseCommittee$Laws", name := "clausesOf", desc := "(I)I" } : Jvm.MethodName) prog_4_method_7_code (2 : Nat) (Option.some Jvm.ClassFile.FieldType.int)) ∈ BIG := big_mem 841 (by decide +kernel) rfl
theorem mw_937 : (Jvm.Cond.instanceMethod ({ cls := "VerseCommittee$Shelf", name := "at", desc := "(I)LVerseCommittee$Rendering;" } : Jvm.MethodName)) ∈ BIG := big_mem 1085 (by decide +kernel) rfl
theorem mw_938 : (Jvm.Cond.selects "VerseCommittee$Shelf" ({ cls := "VerseCommittee$Shelf", name := "at", desc := "(I)LVerseCommittee$Rendering;" } : Jvm.MethodName) ({ cls := "VerseCommittee$Shelf", name := "at", desc := "(I)LVerseCommittee$Rendering;" } : Jvm.MethodName)) ∈ BIG := big_mem 1086 (by decide +kernel) rfl
theorem mw_939 : (Jvm.Cond.code ({ cls := "VerseCommittee$Shelf", name := "at", desc := "(I)LVerseCommittee$Rendering;" } : Jvm.MethodName) prog_10_method_5_code (2 : Nat) (Option.some (Jvm.ClassFile.FieldType.object "VerseCommittee$Rendering"))) ∈ BIG := big_mem 1087 (by decide +kernel) rfl
theorem mw_992 : (Jvm.Cond.methodLink "VerseCommittee$Shelf" (38 : Nat) ({ cls := "VerseCommittee$Shelf", name := "fixedNumber", desc := "(I)I" } : Jvm.MethodName)) ∈ BIG := big_mem 1140 (by decide +kernel) rfl
theorem mw_993 : (Jvm.Cond.instanceMethod ({ cls := "VerseCommittee$Shelf", name := "fixedNumber", desc := "(I)I" } : Jvm.MethodName)) ∈ BIG := big_mem 1141 (by decide +kernel) rfl
theorem mw_994 : (Jvm.Cond.selects "VerseCommittee$Shelf" ({ cls := "VerseCommittee$Shelf", name := "fixedNumber", desc := "(I)I" } : Jvm.MethodName) ({ cls := "VerseCommittee$Shelf", name := "fixedNumber", desc := "(I)I" } : Jvm.MethodName)) ∈ BIG := big_mem 1142 (by decide +kernel) rfl
theorem mw_995 : (Jvm.Cond.code ({ cls := "VerseCommittee$Shelf", name := "fixedNumber", desc := "(I)I" } : Jvm.MethodName) prog_10_method_6_code (2 : Nat) (Option.some Jvm.ClassFile.FieldType.int)) ∈ BIG := big_mem 1143 (by decide +kernel) rfl
theorem mw_996 : (Jvm.Cond.methodLink "VerseCommittee$Shelf" (42 : Nat) ({ cls := "VerseCommittee$Shelf", name := "at", desc := "(I)LVerseCommittee$Rendering;" } : Jvm.MethodName)) ∈ BIG := big_mem 1144 (by decide +kernel) rfl
theorem mw_1149 : (Jvm.Cond.methodLink "VerseCommittee$Findings" (136 : Nat) ({ cls := "VerseCommittee$Verses", name := "size", desc := "()I" } : Jvm.MethodName)) ∈ BIG := big_mem 1297 (by decide +kernel) rfl
theorem mw_1150 : (Jvm.Cond.instanceMethod ({ cls := "VerseCommittee$Verses", name := "size", desc := "()I" } : Jvm.MethodName)) ∈ BIG := big_mem 1298 (by decide +kernel) rfl
theorem mw_1151 : (Jvm.Cond.selects "VerseCommittee$Verses" ({ cls := "VerseCommittee$Verses", name := "size", desc := "()I" } : Jvm.MethodName) ({ cls := "VerseCommittee$Verses", name := "size", desc := "()I" } : Jvm.MethodName)) ∈ BIG := big_mem 1299 (by decide +kernel) rfl
theorem mw_1152 : (Jvm.Cond.code ({ cls := "VerseCommittee$Verses", name := "size", desc := "()I" } : Jvm.MethodName) prog_11_method_2_code (1 : Nat) (Option.some Jvm.ClassFile.FieldType.int)) ∈ BIG := big_mem 1300 (by decide +kernel) rfl
theorem mw_1213 : (Jvm.Cond.methodLink "VerseCommittee$Choices" (63 : Nat) ({ cls := "VerseCommittee$Choices", name := "arePart", desc := "(II)Z" } : Jvm.MethodName)) ∈ BIG := big_mem 1361 (by decide +kernel) rfl
theorem mw_1215 : (Jvm.Cond.instanceMethod ({ cls := "VerseCommittee$Choices", name := "arePart", desc := "(II)Z" } : Jvm.MethodName)) ∈ BIG := big_mem 1363 (by decide +kernel) rfl
theorem mw_1216 : (Jvm.Cond.code ({ cls := "VerseCommittee$Choices", name := "arePart", desc := "(II)Z" } : Jvm.MethodName) prog_2_method_9_code (3 : Nat) (Option.some Jvm.ClassFile.FieldType.boolean)) ∈ BIG := big_mem 1364 (by decide +kernel) rfl
theorem mw_1280 : (Jvm.Cond.constant "VerseCommittee$Choices" (70 : Nat) (2147483647 : Int32)) ∈ BIG := big_mem 1428 (by decide +kernel) rfl
theorem mw_1281 : (Jvm.Cond.methodLink "VerseCommittee$Choices" (77 : Nat) ({ cls := "VerseCommittee$Choices", name := "choose", desc := "(II)V" } : Jvm.MethodName)) ∈ BIG := big_mem 1429 (by decide +kernel) rfl
theorem mw_1283 : (Jvm.Cond.instanceMethod ({ cls := "VerseCommittee$Choices", name := "choose", desc := "(II)V" } : Jvm.MethodName)) ∈ BIG := big_mem 1431 (by decide +kernel) rfl
theorem mw_1284 : (Jvm.Cond.code ({ cls := "VerseCommittee$Choices", name := "choose", desc := "(II)V" } : Jvm.MethodName) prog_2_method_14_code (4 : Nat) (Option.none : Option Jvm.ClassFile.FieldType)) ∈ BIG := big_mem 1432 (by decide +kernel) rfl
theorem mw_1285 : (Jvm.Cond.methodLink "VerseCommittee$Choices" (84 : Nat) ({ cls := "VerseCommittee$Choices", name := "choiceOfRow", desc := "()I" } : Jvm.MethodName)) ∈ BIG := big_mem 1433 (by decide +kernel) rfl
theorem mw_1287 : (Jvm.Cond.instanceMethod ({ cls := "VerseCommittee$Choices", name := "choiceOfRow", desc := "()I" } : Jvm.MethodName)) ∈ BIG := big_mem 1435 (by decide +kernel) rfl
theorem mw_1288 : (Jvm.Cond.code ({ cls := "VerseCommittee$Choices", name := "choiceOfRow", desc := "()I" } : Jvm.MethodName) prog_2_method_11_code (3 : Nat) (Option.some Jvm.ClassFile.FieldType.int)) ∈ BIG := big_mem 1436 (by decide +kernel) rfl
theorem mw_1366 : (Jvm.Cond.methodLink "VerseCommittee$Planner" (41 : Nat) ({ cls := "VerseCommittee$Planner", name := "gatherBooks", desc := "()V" } : Jvm.MethodName)) ∈ BIG := big_mem 1514 (by decide +kernel) rfl
theorem mw_1368 : (Jvm.Cond.instanceMethod ({ cls := "VerseCommittee$Planner", name := "gatherBooks", desc := "()V" } : Jvm.MethodName)) ∈ BIG := big_mem 1516 (by decide +kernel) rfl
theorem mw_1369 : (Jvm.Cond.code ({ cls := "VerseCommittee$Planner", name := "gatherBooks", desc := "()V" } : Jvm.MethodName) prog_7_method_4_code (3 : Nat) (Option.none : Option Jvm.ClassFile.FieldType)) ∈ BIG := big_mem 1517 (by decide +kernel) rfl
theorem mw_1370 : (Jvm.Cond.methodLink "VerseCommittee$Planner" (77 : Nat) ({ cls := "VerseCommittee$Verses", name := "size", desc := "()I" } : Jvm.MethodName)) ∈ BIG := big_mem 1518 (by decide +kernel) rfl
theorem mw_1373 : (Jvm.Cond.constant "VerseCommittee$Planner" (44 : Nat) (2147483647 : Int32)) ∈ BIG := big_mem 1521 (by decide +kernel) rfl
theorem mw_1374 : (Jvm.Cond.methodLink "VerseCommittee$Planner" (49 : Nat) ({ cls := "VerseCommittee$Planner", name := "daysOfCentre", desc := "()I" } : Jvm.MethodName)) ∈ BIG := big_mem 1522 (by decide +kernel) rfl
theorem mw_1376 : (Jvm.Cond.instanceMethod ({ cls := "VerseCommittee$Planner", name := "daysOfCentre", desc := "()I" } : Jvm.MethodName)) ∈ BIG := big_mem 1524 (by decide +kernel) rfl
theorem mw_1377 : (Jvm.Cond.code ({ cls := "VerseCommittee$Planner", name := "daysOfCentre", desc := "()I" } : Jvm.MethodName) prog_7_method_5_code (3 : Nat) (Option.some Jvm.ClassFile.FieldType.int)) ∈ BIG := big_mem 1525 (by decide +kernel) rfl
theorem mw_1385 : (Jvm.Cond.methodLink "VerseCommittee$Planner" (53 : Nat) ({ cls := "VerseCommittee$Planner", name := "give", desc := "(II)V" } : Jvm.MethodName)) ∈ BIG := big_mem 1533 (by decide +kernel) rfl
theorem mw_1387 : (Jvm.Cond.instanceMethod ({ cls := "VerseCommittee$Planner", name := "give", desc := "(II)V" } : Jvm.MethodName)) ∈ BIG := big_mem 1535 (by decide +kernel) rfl
theorem mw_1388 : (Jvm.Cond.code ({ cls := "VerseCommittee$Planner", name := "give", desc := "(II)V" } : Jvm.MethodName) prog_7_method_8_code (4 : Nat) (Option.none : Option Jvm.ClassFile.FieldType)) ∈ BIG := big_mem 1536 (by decide +kernel) rfl
theorem iX0 : ∀ w ∈ u_ws RX0 TX0 14, w ∈ BIG := in_places [466, 468, 470, 472, 474, 476, 478, 480, 482, 484, 486, 488, 490, 492] (by decide +kernel) (by decide +kernel)
theorem iX1 : ∀ w ∈ u_ws RX1 TX1 13, w ∈ BIG := in_places [418, 420, 422, 424, 426, 428, 430, 432, 434, 436, 438, 440, 442] (by decide +kernel) (by decide +kernel)
theorem iX2 : ∀ w ∈ u_ws RX2 TX2 11, w ∈ BIG := in_places [266, 268, 270, 272, 274, 276, 278, 280, 282, 284, 286] (by decide +kernel) (by decide +kernel)
theorem iX3 : ∀ w ∈ u_ws RX3 TX3 7, w ∈ BIG := in_places [334, 336, 338, 340, 342, 344, 346] (by decide +kernel) (by decide +kernel)
theorem iX4 : ∀ w ∈ u_ws RX4 TX4 8, w ∈ BIG := in_places [231, 233, 235, 237, 239, 241, 243, 245] (by decide +kernel) (by decide +kernel)
theorem iX5 : ∀ w ∈ u_ws RX5 TX5 10, w ∈ BIG := in_places [512, 514, 516, 518, 520, 522, 524, 526, 528, 530] (by decide +kernel) (by decide +kernel)
theorem iX6 : ∀ w ∈ u_ws RX6 TX6 14, w ∈ BIG := in_places [370, 372, 374, 376, 378, 380, 382, 384, 386, 388, 390, 392, 394, 396] (by decide +kernel) (by decide +kernel)
theorem iX7 : ∀ w ∈ u_ws RX7 TX7 14, w ∈ BIG := in_places [1042, 1044, 1046, 1048, 1050, 1052, 1054, 1056, 1058, 1060, 1062, 1064, 1066, 1068] (by decide +kernel) (by decide +kernel)
theorem iX8 : ∀ w ∈ u_ws RX8 TX8 7, w ∈ BIG := in_places [304, 306, 308, 310, 312, 314, 316] (by decide +kernel) (by decide +kernel)
theorem iX9 : ∀ w ∈ u_ws RX9 TX9 6, w ∈ BIG := in_places [204, 206, 208, 210, 212, 214] (by decide +kernel) (by decide +kernel)
theorem iX10 : ∀ w ∈ u_ws RX10 TX10 3, w ∈ BIG := in_places [181, 183, 185] (by decide +kernel) (by decide +kernel)
theorem iX11 : ∀ w ∈ u_ws RX11 TX11 14, w ∈ BIG := in_places [547, 549, 551, 553, 555, 557, 559, 561, 563, 565, 567, 569, 571, 573] (by decide +kernel) (by decide +kernel)
theorem iX12 : ∀ w ∈ u_ws RX12 TX12 96, w ∈ BIG := in_places [1720, 1722, 1724, 1726, 1728, 1730, 1732, 1734, 1736, 1738, 1740, 1742, 1744, 1746, 1748, 1750, 1752, 1754, 1756, 1758, 1760, 1762, 1764, 1766, 1768, 1770, 1772, 1774, 1776, 1778, 1780, 1782, 1784, 1786, 1788, 1790, 1792, 1794, 1796, 1798, 1800, 1802, 1804, 1806, 1808, 1810, 1812, 1814, 1816, 1818, 1820, 1822, 1824, 1826, 1828, 1830, 1832, 1834, 1836, 1838, 1840, 1842, 1844, 1846, 1848, 1850, 1852, 1854, 1856, 1858, 1860, 1862, 1864, 1866, 1868, 1870, 1872, 1874, 1876, 1878, 1880, 1882, 1884, 1886, 1888, 1890, 1892, 1894, 1896, 1898, 1900, 1902, 1904, 1906, 1908, 1910] (by decide +kernel) (by decide +kernel)
theorem tI_m8 : (-8 : Int32).toInt = -8 := by decide
theorem tI_m1 : (-1 : Int32).toInt = -1 := by decide
theorem tI_0 : (0 : Int32).toInt = 0 := by decide
theorem tI_1 : (1 : Int32).toInt = 1 := by decide
theorem tI_2 : (2 : Int32).toInt = 2 := by decide
theorem tI_3 : (3 : Int32).toInt = 3 := by decide
theorem tI_4 : (4 : Int32).toInt = 4 := by decide
theorem tI_5 : (5 : Int32).toInt = 5 := by decide
theorem tI_6 : (6 : Int32).toInt = 6 := by decide
theorem tI_7 : (7 : Int32).toInt = 7 := by decide
theorem tI_8 : (8 : Int32).toInt = 8 := by decide
theorem tI_16 : (16 : Int32).toInt = 16 := by decide
theorem tI_20 : (20 : Int32).toInt = 20 := by decide
theorem tI_24 : (24 : Int32).toInt = 24 := by decide
theorem tI_40 : (40 : Int32).toInt = 40 := by decide
theorem tI_60 : (60 : Int32).toInt = 60 := by decide
theorem tI_99 : (99 : Int32).toInt = 99 := by decide
theorem tI_200 : (200 : Int32).toInt = 200 := by decide
theorem tI_255 : (255 : Int32).toInt = 255 := by decide
theorem tI_3999 : (3999 : Int32).toInt = 3999 := by decide
theorem tI_2147483647 : (2147483647 : Int32).toInt = 2147483647 := by decide
def XW (ct : Nat → ClassId) (ad : Nat → Nat) (iv : Nat → Int32) (ia : Nat → Nat → Int32) (la : Nat → Nat → Int64) (pt : Nat → Option Nat) (ra : Nat → Nat → Option Nat) (R : va_W) : va_W :=
  (ad 0, .inr (11, [.ref (ad 1), .ref (ad 2), .ref (ad 3), .ref (ad 6), .ref (ad 12), .ref (ad 16), .ref (ad 27), .ref (ad 33), .ref (ad 34), .ref (ad 35), .ref (ad 42), .ref (ad 50), .int (iv 0), .int (iv 1)])) ::
  (ad 1, .inl (ct 0, 200, .inl (ia 1))) ::
  (ad 2, .inl (ct 0, 13, .inl (ia 2))) ::
  (ad 3, .inr (10, [.ref (ad 4), .ref (ad 5), .int (iv 2)])) ::
  (ad 4, .inl (ct 1, 4800, .inl (ia 4))) ::
  (ad 5, .inl (ct 1, 400, .inl (ia 5))) ::
  (ad 6, .inr (9, [.ref (ad 7), .ref (ad 8), .ref (ad 9), .ref (ad 10), .ref (ad 11), .int (iv 3)])) ::
  (ad 7, .inl (ct 0, 60, .inl (ia 7))) ::
  (ad 8, .inl (ct 0, 60, .inl (ia 8))) ::
  (ad 9, .inl (ct 4, 180, .inr (.inr (.inr (.inr (ra 9)))))) ::
  (ad 10, .inl (ct 0, 480, .inl (ia 10))) ::
  (ad 11, .inl (ct 0, 480, .inl (ia 11))) ::
  (ad 12, .inr (4, [.ref (ad 13), .ref (ad 14), .ref (ad 15), .int (iv 4), .int (iv 5), .int (iv 6), .int (iv 7), .int (iv 8)])) ::
  (ad 13, .inl (ct 0, 6, .inl (ia 13))) ::
  (ad 14, .inl (ct 0, 6, .inl (ia 14))) ::
  (ad 15, .inl (ct 0, 6, .inl (ia 15))) ::
  (ad 16, .inr (2, [.ref (ad 17), .ref (ad 18), .ref (ad 19), .ref (ad 20), .ref (ad 21), .ref (ad 22), .ref (ad 23), .ref (ad 24), .ref (ad 25), .ref (ad 26), .int (iv 9)])) ::
  (ad 17, .inl (ct 4, 20, .inr (.inr (.inr (.inr (ra 17)))))) ::
  (ad 18, .inl (ct 0, 20, .inl (ia 18))) ::
  (ad 19, .inl (ct 0, 20, .inl (ia 19))) ::
  (ad 20, .inl (ct 0, 20, .inl (ia 20))) ::
  (ad 21, .inl (ct 0, 20, .inl (ia 21))) ::
  (ad 22, .inl (ct 0, 320, .inl (ia 22))) ::
  (ad 23, .inl (ct 0, 320, .inl (ia 23))) ::
  (ad 24, .inl (ct 0, 320, .inl (ia 24))) ::
  (ad 25, .inl (ct 0, 320, .inl (ia 25))) ::
  (ad 26, .inl (ct 0, 320, .inl (ia 26))) ::
  (ad 27, .inr (8, [.ref (ad 28), .ref (ad 29), .ref (ad 30), .ref (ad 31), .ref (ad 32), .int (iv 10), .int (iv 11)])) ::
  (ad 28, .inl (ct 5, 200, .inr (.inr (.inr (.inr (ra 28)))))) ::
  (ad 29, .inl (ct 0, 60, .inl (ia 29))) ::
  (ad 30, .inl (ct 0, 1024, .inl (ia 30))) ::
  (ad 31, .inl (ct 0, 1024, .inl (ia 31))) ::
  (ad 32, .inl (ct 0, 1024, .inl (ia 32))) ::
  (ad 33, .inr (3, [.ref (ad 16), va_rf (pt 0), .int (iv 12), .int (iv 13), .int (iv 14), .int (iv 15), .int (iv 16)])) ::
  (ad 34, .inr (6, [.ref (ad 16), .ref (ad 6), .ref (ad 12), .int (iv 17), .int (iv 18), .int (iv 19), .int (iv 20), .int (iv 21), .int (iv 22), .int (iv 23), .int (iv 24), va_rf (pt 1), .int (iv 25), .int (iv 26)])) ::
  (ad 35, .inr (1, [.ref (ad 16), .ref (ad 6), .ref (ad 34), .ref (ad 27), .ref (ad 36), .ref (ad 37), .ref (ad 38), .ref (ad 39), .ref (ad 40), .ref (ad 41), .int (iv 27), .int (iv 28), .int (iv 29)])) ::
  (ad 36, .inl (ct 0, 5, .inl (ia 36))) ::
  (ad 37, .inl (ct 0, 320, .inl (ia 37))) ::
  (ad 38, .inl (ct 0, 420, .inl (ia 38))) ::
  (ad 39, .inl (ct 0, 420, .inl (ia 39))) ::
  (ad 40, .inl (ct 0, 420, .inl (ia 40))) ::
  (ad 41, .inl (ct 2, 300, .inr (.inl (la 41)))) ::
  (ad 42, .inr (0, [.ref (ad 16), .ref (ad 6), .ref (ad 34), .ref (ad 27), .ref (ad 43), .ref (ad 44), .ref (ad 45), .ref (ad 46), .ref (ad 47), .ref (ad 48), .ref (ad 49), .int (iv 30), .int (iv 31), .int (iv 32)])) ::
  (ad 43, .inl (ct 0, 6, .inl (ia 43))) ::
  (ad 44, .inl (ct 0, 6, .inl (ia 44))) ::
  (ad 45, .inl (ct 0, 24, .inl (ia 45))) ::
  (ad 46, .inl (ct 2, 40, .inr (.inl (la 46)))) ::
  (ad 47, .inl (ct 0, 24, .inl (ia 47))) ::
  (ad 48, .inl (ct 3, 24, .inl (ia 48))) ::
  (ad 49, .inl (ct 0, 6, .inl (ia 49))) ::
  (ad 50, .inr (5, [.ref (ad 6), .ref (ad 12), .ref (ad 27), .ref (ad 51), .ref (ad 52), .ref (ad 53), .ref (ad 54), .ref (ad 55), .int (iv 33), .int (iv 34)])) ::
  (ad 51, .inl (ct 0, 8, .inl (ia 51))) ::
  (ad 52, .inl (ct 0, 6, .inl (ia 52))) ::
  (ad 53, .inl (ct 0, 6, .inl (ia 53))) ::
  (ad 54, .inl (ct 0, 6, .inl (ia 54))) ::
  (ad 55, .inl (ct 0, 6, .inl (ia 55))) ::
  R

def MW (ct : Nat → ClassId) (ad : Nat → Nat) (iv : Nat → Int32) (ia : Nat → Nat → Int32) (R : va_W) : va_W :=
  (ad 0, .inr (12, [.ref (ad 1), .int (iv 0), .int (iv 1), .int (iv 2), .int (iv 3), .int (iv 4), .int (iv 5), .int (iv 6), .int (iv 7), .int (iv 8), .ref (ad 2), .ref (ad 3), .ref (ad 4), .ref (ad 5), .ref (ad 6), .ref (ad 7), .ref (ad 8), .ref (ad 9), .ref (ad 10), .ref (ad 11), .ref (ad 12), .ref (ad 13), .ref (ad 14), .ref (ad 15), .ref (ad 16), .ref (ad 17), .ref (ad 18), .ref (ad 19), .ref (ad 20), .ref (ad 21), .ref (ad 22), .ref (ad 23), .ref (ad 24), .ref (ad 25), .ref (ad 26), .int (iv 9), .int (iv 10), .int (iv 11), .int (iv 12), .int (iv 13), .int (iv 14), .int (iv 15), .int (iv 16), .int (iv 17), .ref (ad 27), .ref (ad 28), .ref (ad 29), .ref (ad 30), .ref (ad 31), .ref (ad 32), .ref (ad 33), .ref (ad 34), .ref (ad 35), .ref (ad 36), .ref (ad 37), .ref (ad 38), .ref (ad 39), .ref (ad 40), .ref (ad 41), .ref (ad 42), .ref (ad 43), .ref (ad 44), .ref (ad 45), .ref (ad 46), .ref (ad 47), .ref (ad 48), .ref (ad 49), .ref (ad 50), .int (iv 18), .ref (ad 51), .ref (ad 52), .ref (ad 53), .int (iv 19), .int (iv 20), .int (iv 21), .int (iv 22), .int (iv 23), .int (iv 24), .int (iv 25), .ref (ad 54), .int (iv 26), .ref (ad 55), .ref (ad 56), .ref (ad 57), .ref (ad 58), .ref (ad 59), .ref (ad 60), .ref (ad 61), .ref (ad 62), .int (iv 27), .ref (ad 63), .int (iv 28), .int (iv 29), .ref (ad 64), .ref (ad 65), .ref (ad 66)])) ::
  (ad 1, .inl (ct 1, 200, .inl (ia 1))) ::
  (ad 2, .inl (ct 0, 60, .inl (ia 2))) ::
  (ad 3, .inl (ct 0, 60, .inl (ia 3))) ::
  (ad 4, .inl (ct 0, 180, .inl (ia 4))) ::
  (ad 5, .inl (ct 0, 1440, .inl (ia 5))) ::
  (ad 6, .inl (ct 0, 320, .inl (ia 6))) ::
  (ad 7, .inl (ct 1, 3840, .inl (ia 7))) ::
  (ad 8, .inl (ct 0, 6, .inl (ia 8))) ::
  (ad 9, .inl (ct 0, 6, .inl (ia 9))) ::
  (ad 10, .inl (ct 0, 24, .inl (ia 10))) ::
  (ad 11, .inl (ct 3, 24, .inl (ia 11))) ::
  (ad 12, .inl (ct 3, 24, .inl (ia 12))) ::
  (ad 13, .inl (ct 1, 960, .inl (ia 13))) ::
  (ad 14, .inl (ct 0, 80, .inl (ia 14))) ::
  (ad 15, .inl (ct 0, 20, .inl (ia 15))) ::
  (ad 16, .inl (ct 0, 20, .inl (ia 16))) ::
  (ad 17, .inl (ct 0, 20, .inl (ia 17))) ::
  (ad 18, .inl (ct 0, 20, .inl (ia 18))) ::
  (ad 19, .inl (ct 0, 320, .inl (ia 19))) ::
  (ad 20, .inl (ct 0, 320, .inl (ia 20))) ::
  (ad 21, .inl (ct 0, 320, .inl (ia 21))) ::
  (ad 22, .inl (ct 0, 320, .inl (ia 22))) ::
  (ad 23, .inl (ct 0, 320, .inl (ia 23))) ::
  (ad 24, .inl (ct 0, 320, .inl (ia 24))) ::
  (ad 25, .inl (ct 0, 3200, .inl (ia 25))) ::
  (ad 26, .inl (ct 0, 3200, .inl (ia 26))) ::
  (ad 27, .inl (ct 0, 200, .inl (ia 27))) ::
  (ad 28, .inl (ct 0, 200, .inl (ia 28))) ::
  (ad 29, .inl (ct 3, 200, .inl (ia 29))) ::
  (ad 30, .inl (ct 0, 16, .inl (ia 30))) ::
  (ad 31, .inl (ct 0, 16, .inl (ia 31))) ::
  (ad 32, .inl (ct 0, 400, .inl (ia 32))) ::
  (ad 33, .inl (ct 0, 200, .inl (ia 33))) ::
  (ad 34, .inl (ct 0, 200, .inl (ia 34))) ::
  (ad 35, .inl (ct 0, 200, .inl (ia 35))) ::
  (ad 36, .inl (ct 0, 200, .inl (ia 36))) ::
  (ad 37, .inl (ct 0, 200, .inl (ia 37))) ::
  (ad 38, .inl (ct 0, 200, .inl (ia 38))) ::
  (ad 39, .inl (ct 0, 1600, .inl (ia 39))) ::
  (ad 40, .inl (ct 0, 200, .inl (ia 40))) ::
  (ad 41, .inl (ct 0, 2400, .inl (ia 41))) ::
  (ad 42, .inl (ct 0, 2400, .inl (ia 42))) ::
  (ad 43, .inl (ct 0, 200, .inl (ia 43))) ::
  (ad 44, .inl (ct 0, 400, .inl (ia 44))) ::
  (ad 45, .inl (ct 0, 400, .inl (ia 45))) ::
  (ad 46, .inl (ct 0, 400, .inl (ia 46))) ::
  (ad 47, .inl (ct 0, 400, .inl (ia 47))) ::
  (ad 48, .inl (ct 0, 400, .inl (ia 48))) ::
  (ad 49, .inl (ct 0, 400, .inl (ia 49))) ::
  (ad 50, .inl (ct 0, 400, .inl (ia 50))) ::
  (ad 51, .inl (ct 0, 4000, .inl (ia 51))) ::
  (ad 52, .inl (ct 0, 4000, .inl (ia 52))) ::
  (ad 53, .inl (ct 0, 4000, .inl (ia 53))) ::
  (ad 54, .inl (ct 0, 60, .inl (ia 54))) ::
  (ad 55, .inl (ct 0, 6, .inl (ia 55))) ::
  (ad 56, .inl (ct 0, 6, .inl (ia 56))) ::
  (ad 57, .inl (ct 0, 24, .inl (ia 57))) ::
  (ad 58, .inl (ct 3, 1600, .inl (ia 58))) ::
  (ad 59, .inl (ct 0, 24, .inl (ia 59))) ::
  (ad 60, .inl (ct 3, 24, .inl (ia 60))) ::
  (ad 61, .inl (ct 0, 480, .inl (ia 61))) ::
  (ad 62, .inl (ct 0, 480, .inl (ia 62))) ::
  (ad 63, .inl (ct 1, 200, .inl (ia 63))) ::
  (ad 64, .inl (ct 0, 6, .inl (ia 64))) ::
  (ad 65, .inl (ct 0, 6, .inl (ia 65))) ::
  (ad 66, .inl (ct 0, 6, .inl (ia 66))) ::
  R

theorem upd_all {f : Nat → Int32} {n : Int} {i : Nat} {x : Int32} (h : ∀ j, (f j).toInt = n) (hx : x.toInt = n) : ∀ j, (upd f i x j).toInt = n := by
  intro j
  unfold upd
  split
  · exact hx
  · exact h j
theorem ret_Q {p : Program} {l : Launch} {e : Env} {R : Room} {s : State} {m : MethodId} {args : Array Value} {below : List Frame} {meth : Method} {c : Code} {H : Heap} {locs : List Loc} {cells slots : Nat} {cc : ByteArray} {pc : Nat} {ls : Array Slot} {D : va_G} {T : List (ClassId × FieldType)} {A : Nat → Prop} {own : String} {nL tN : Nat} {S : Type} {W' : S → va_W} {post : Option Nat → S → Prop} {v : Option Nat} {ty : FieldType} (E : Ev p s m args c own nL cc D T tN A) (hr : meth.sig.returnType = some ty) (hlocks : meth.locks = false) (hrt : (∃ n, ty = .object n) ∨ ∃ t, ty = .array t) {u : S} (B : Hp D A s.heap (W' u) H locs) (hp : post v u) (hdg : decode cc pc = .ok (.areturn, 1)) : W p l e R s m args below meth c H locs cells slots (MQ below (va_Qq post (BW D A W') A) args s cells slots A) (F0 m pc ls [va_rf v]) :=
  W.aret E.1.1 E.1.2.1 hr hrt (va_rf_or v) (fun t ht hW => ⟨⟨v, u, rfl, hp, by rw [ht]; exact B.1, B.2.1⟩, B.2.2.F ht⟩) B.2.2.2.2 hdg (hlocks := hlocks)
