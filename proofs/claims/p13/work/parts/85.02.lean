noncomputable def f_x3_readTurning_j37 (u0 : Int32) (i9 : Int32) (i12 : Int32) (a1 : Nat → Int32) (a23 : Nat → Int32) (a24 : Nat → Int32) (a25 : Nat → Int32) (v_1 : Int32) (i13_18 : Int32) (i14_19 : Int32) (i15_20 : Int32) (y_38 : Int32) : Int32 × Int32 × Int32 × Int32 × (Nat → Int32) × (Nat → Int32) × (Nat → Int32) := f_x3_readTurning_J_37 u0 i9 i12 a1 a23 a24 a25 v_1 i13_18 i14_19 i15_20 y_38
noncomputable def f_x3_readTurning_b_80 (u0 : Int32) (i9 : Int32) (i12 : Int32) (a1 : Nat → Int32) (a23 : Nat → Int32) (a24 : Nat → Int32) (a25 : Nat → Int32) (v_1 : Int32) (i13_18 : Int32) (i14_19 : Int32) (i15_20 : Int32) : Int32 × Int32 × Int32 × Int32 × (Nat → Int32) × (Nat → Int32) × (Nat → Int32) :=
  let v_81 : Int32 := (F_x3_sign i12 i13_18 a1)
  let z_85 : Int32 := v_81 - (48 : Int32)
  f_x3_readTurning_j37 u0 i9 i12 a1 a23 a24 a25 v_1 i13_18 i14_19 i15_20 z_85
noncomputable def f_x3_readTurning_b_86 (u0 : Int32) (i9 : Int32) (i12 : Int32) (a1 : Nat → Int32) (a23 : Nat → Int32) (a24 : Nat → Int32) (a25 : Nat → Int32) (v_1 : Int32) (i13_18 : Int32) (i14_19 : Int32) (i15_20 : Int32) : Int32 × Int32 × Int32 × Int32 × (Nat → Int32) × (Nat → Int32) × (Nat → Int32) :=
  f_x3_readTurning_j37 u0 i9 i12 a1 a23 a24 a25 v_1 i13_18 i14_19 i15_20 ((4 : Int32))
noncomputable def f_x3_readTurning_J_32 (u0 : Int32) (i9 : Int32) (i12 : Int32) (a1 : Nat → Int32) (a23 : Nat → Int32) (a24 : Nat → Int32) (a25 : Nat → Int32) (v_1 : Int32) (i13_18 : Int32) (i14_19 : Int32) (i15_20 : Int32) : Int32 × Int32 × Int32 × Int32 × (Nat → Int32) × (Nat → Int32) × (Nat → Int32) :=
  let v_33 : Int32 := (F_x3_sign i12 i13_18 a1)
  if v_33.toInt ≠ 42 then (f_x3_readTurning_b_80 u0 i9 i12 a1 a23 a24 a25 v_1 i13_18 i14_19 i15_20) else (f_x3_readTurning_b_86 u0 i9 i12 a1 a23 a24 a25 v_1 i13_18 i14_19 i15_20)
noncomputable def f_x3_readTurning_j32 (u0 : Int32) (i9 : Int32) (i12 : Int32) (a1 : Nat → Int32) (a23 : Nat → Int32) (a24 : Nat → Int32) (a25 : Nat → Int32) (v_1 : Int32) (i13_18 : Int32) (i14_19 : Int32) (i15_20 : Int32) : Int32 × Int32 × Int32 × Int32 × (Nat → Int32) × (Nat → Int32) × (Nat → Int32) := f_x3_readTurning_J_32 u0 i9 i12 a1 a23 a24 a25 v_1 i13_18 i14_19 i15_20
noncomputable def f_x3_readTurning_b_88 (u0 : Int32) (i9 : Int32) (i12 : Int32) (a1 : Nat → Int32) (a23 : Nat → Int32) (a24 : Nat → Int32) (a25 : Nat → Int32) (v_1 : Int32) (i13_18 : Int32) (i14_19 : Int32) (i15_20 : Int32) : Int32 × Int32 × Int32 × Int32 × (Nat → Int32) × (Nat → Int32) × (Nat → Int32) :=
  f_x3_readTurning_j32 u0 i9 i12 a1 a23 a24 a25 v_1 i13_18 i14_19 i15_20
noncomputable def f_x3_readTurning_b_99 (u0 : Int32) (i9 : Int32) (i12 : Int32) (a1 : Nat → Int32) (a23 : Nat → Int32) (a24 : Nat → Int32) (a25 : Nat → Int32) (v_1 : Int32) (i13_18 : Int32) (i14_19 : Int32) (i15_20 : Int32) : Int32 × Int32 × Int32 × Int32 × (Nat → Int32) × (Nat → Int32) × (Nat → Int32) :=
  f_x3_readTurning_j32 u0 i9 i12 a1 a23 a24 a25 v_1 i13_18 i14_19 i15_20
noncomputable def f_x3_readTurning_b_100 (a23 : Nat → Int32) (a24 : Nat → Int32) (a25 : Nat → Int32) (i13_18 : Int32) : Int32 × Int32 × Int32 × Int32 × (Nat → Int32) × (Nat → Int32) × (Nat → Int32) :=
  let v_101 : Int32 := (F_x3_fail (1 : Int32) i13_18).1
  let i14_104 : Int32 := (F_x3_fail (1 : Int32) i13_18).2.1
  let i15_105 : Int32 := (F_x3_fail (1 : Int32) i13_18).2.2
  (v_101, i13_18, i14_104, i15_105, a23, a24, a25)
noncomputable def f_x3_readTurning_b_89 (u0 : Int32) (i9 : Int32) (i12 : Int32) (a1 : Nat → Int32) (a23 : Nat → Int32) (a24 : Nat → Int32) (a25 : Nat → Int32) (v_1 : Int32) (i13_18 : Int32) (i14_19 : Int32) (i15_20 : Int32) : Int32 × Int32 × Int32 × Int32 × (Nat → Int32) × (Nat → Int32) × (Nat → Int32) :=
  let v_90 : Int32 := (F_x3_sign i12 i13_18 a1)
  let v_94 : Int32 := (F_x3_isBetween v_90 (48 : Int32) (51 : Int32))
  if v_94.toInt ≠ 0 then (f_x3_readTurning_b_99 u0 i9 i12 a1 a23 a24 a25 v_1 i13_18 i14_19 i15_20) else (f_x3_readTurning_b_100 a23 a24 a25 i13_18)
noncomputable def f_x3_readTurning_b_27 (u0 : Int32) (i9 : Int32) (i12 : Int32) (a1 : Nat → Int32) (a23 : Nat → Int32) (a24 : Nat → Int32) (a25 : Nat → Int32) (v_1 : Int32) (i13_18 : Int32) (i14_19 : Int32) (i15_20 : Int32) : Int32 × Int32 × Int32 × Int32 × (Nat → Int32) × (Nat → Int32) × (Nat → Int32) :=
  let v_28 : Int32 := (F_x3_sign i12 i13_18 a1)
  if v_28.toInt = 42 then (f_x3_readTurning_b_88 u0 i9 i12 a1 a23 a24 a25 v_1 i13_18 i14_19 i15_20) else (f_x3_readTurning_b_89 u0 i9 i12 a1 a23 a24 a25 v_1 i13_18 i14_19 i15_20)
noncomputable def f_x3_readTurning_b_111 (a23 : Nat → Int32) (a24 : Nat → Int32) (a25 : Nat → Int32) (i13_18 : Int32) (i14_19 : Int32) (i15_20 : Int32) : Int32 × Int32 × Int32 × Int32 × (Nat → Int32) × (Nat → Int32) × (Nat → Int32) :=
  ((0 : Int32), i13_18, i14_19, i15_20, a23, a24, a25)
noncomputable def f_x3_readTurning_b_14 (u0 : Int32) (i9 : Int32) (i12 : Int32) (a1 : Nat → Int32) (a23 : Nat → Int32) (a24 : Nat → Int32) (a25 : Nat → Int32) (v_1 : Int32) (i13_4 : Int32) (i14_5 : Int32) (i15_6 : Int32) : Int32 × Int32 × Int32 × Int32 × (Nat → Int32) × (Nat → Int32) × (Nat → Int32) :=
  let v_15 : Int32 := (F_x3_pass (46 : Int32) i12 i13_4 i14_5 i15_6 a1).1
  let i13_18 : Int32 := (F_x3_pass (46 : Int32) i12 i13_4 i14_5 i15_6 a1).2.1
  let i14_19 : Int32 := (F_x3_pass (46 : Int32) i12 i13_4 i14_5 i15_6 a1).2.2.1
  let i15_20 : Int32 := (F_x3_pass (46 : Int32) i12 i13_4 i14_5 i15_6 a1).2.2.2
  if v_15.toInt ≠ 0 then (f_x3_readTurning_b_27 u0 i9 i12 a1 a23 a24 a25 v_1 i13_18 i14_19 i15_20) else (f_x3_readTurning_b_111 a23 a24 a25 i13_18 i14_19 i15_20)
noncomputable def F_x3_readTurning (u0 : Int32) (i9 : Int32) (i12 : Int32) (i13 : Int32) (i14 : Int32) (i15 : Int32) (a1 : Nat → Int32) (a23 : Nat → Int32) (a24 : Nat → Int32) (a25 : Nat → Int32) : Int32 × Int32 × Int32 × Int32 × (Nat → Int32) × (Nat → Int32) × (Nat → Int32) :=
  let v_1 : Int32 := (F_x3_readNumber (39 : Int32) i12 i13 i14 i15 a1).1
  let i13_4 : Int32 := (F_x3_readNumber (39 : Int32) i12 i13 i14 i15 a1).2.1
  let i14_5 : Int32 := (F_x3_readNumber (39 : Int32) i12 i13 i14 i15 a1).2.2.1
  let i15_6 : Int32 := (F_x3_readNumber (39 : Int32) i12 i13 i14 i15 a1).2.2.2
  if v_1.toInt = (-1) then (f_x3_readTurning_b_12 a23 a24 a25 i13_4 i14_5 i15_6) else (f_x3_readTurning_b_14 u0 i9 i12 a1 a23 a24 a25 v_1 i13_4 i14_5 i15_6)
noncomputable def f_x3_readOpening_b_2 (i13 : Int32) (i14 : Int32) (i15 : Int32) : Int32 × Int32 × Int32 × Int32 :=
  let z_3 : Int32 := i13 + (1 : Int32)
  ((1 : Int32), z_3, i14, i15)
noncomputable def f_x3_readOpening_b_5 (i13 : Int32) : Int32 × Int32 × Int32 × Int32 :=
  let v_6 : Int32 := (F_x3_fail (5 : Int32) i13).1
  let i14_9 : Int32 := (F_x3_fail (5 : Int32) i13).2.1
  let i15_10 : Int32 := (F_x3_fail (5 : Int32) i13).2.2
  (v_6, i13, i14_9, i15_10)
noncomputable def F_x3_readOpening (u0 : Int32) (i13 : Int32) (i14 : Int32) (i15 : Int32) : Int32 × Int32 × Int32 × Int32 :=
  if u0.toInt < 6 then (f_x3_readOpening_b_2 i13 i14 i15) else (f_x3_readOpening_b_5 i13)
noncomputable def f_x3_isTermSign_b_6  : Int32 :=
  (1 : Int32)
noncomputable def f_x3_isTermSign_b_14  : Int32 :=
  (1 : Int32)
noncomputable def f_x3_isTermSign_b_22  : Int32 :=
  (0 : Int32)
noncomputable def f_x3_isTermSign_b_24  : Int32 :=
  (1 : Int32)
noncomputable def f_x3_isTermSign_b_16 (i12 : Int32) (i13 : Int32) (a1 : Nat → Int32) : Int32 :=
  let v_17 : Int32 := (F_x3_sign i12 i13 a1)
  if v_17.toInt ≠ 37 then f_x3_isTermSign_b_22 else f_x3_isTermSign_b_24
noncomputable def f_x3_isTermSign_b_8 (i12 : Int32) (i13 : Int32) (a1 : Nat → Int32) : Int32 :=
  let v_9 : Int32 := (F_x3_sign i12 i13 a1)
  if v_9.toInt = 47 then f_x3_isTermSign_b_14 else (f_x3_isTermSign_b_16 i12 i13 a1)
noncomputable def F_x3_isTermSign (i12 : Int32) (i13 : Int32) (a1 : Nat → Int32) : Int32 :=
  let v_1 : Int32 := (F_x3_sign i12 i13 a1)
  if v_1.toInt = 42 then f_x3_isTermSign_b_6 else (f_x3_isTermSign_b_8 i12 i13 a1)
noncomputable def f_x3_readComparison_b_6 (i13 : Int32) (i14 : Int32) (i15 : Int32) : Int32 × Int32 × Int32 × Int32 :=
  let z_7 : Int32 := i13 + (1 : Int32)
  ((1 : Int32), z_7, i14, i15)
noncomputable def f_x3_readComparison_b_15 (i13 : Int32) (i14 : Int32) (i15 : Int32) : Int32 × Int32 × Int32 × Int32 :=
  let z_16 : Int32 := i13 + (1 : Int32)
  ((1 : Int32), z_16, i14, i15)
noncomputable def f_x3_readComparison_b_24 (i13 : Int32) (i14 : Int32) (i15 : Int32) : Int32 × Int32 × Int32 × Int32 :=
  let z_25 : Int32 := i13 + (1 : Int32)
  ((1 : Int32), z_25, i14, i15)
noncomputable def f_x3_readComparison_b_27 (i13 : Int32) : Int32 × Int32 × Int32 × Int32 :=
  let v_28 : Int32 := (F_x3_fail (1 : Int32) i13).1
  let i14_31 : Int32 := (F_x3_fail (1 : Int32) i13).2.1
  let i15_32 : Int32 := (F_x3_fail (1 : Int32) i13).2.2
  (v_28, i13, i14_31, i15_32)
noncomputable def f_x3_readComparison_b_18 (i12 : Int32) (i13 : Int32) (i14 : Int32) (i15 : Int32) (a1 : Nat → Int32) : Int32 × Int32 × Int32 × Int32 :=
  let v_19 : Int32 := (F_x3_sign i12 i13 a1)
  if v_19.toInt = 61 then (f_x3_readComparison_b_24 i13 i14 i15) else (f_x3_readComparison_b_27 i13)
noncomputable def f_x3_readComparison_b_9 (i12 : Int32) (i13 : Int32) (i14 : Int32) (i15 : Int32) (a1 : Nat → Int32) : Int32 × Int32 × Int32 × Int32 :=
  let v_10 : Int32 := (F_x3_sign i12 i13 a1)
  if v_10.toInt = 62 then (f_x3_readComparison_b_15 i13 i14 i15) else (f_x3_readComparison_b_18 i12 i13 i14 i15 a1)
noncomputable def F_x3_readComparison (i12 : Int32) (i13 : Int32) (i14 : Int32) (i15 : Int32) (a1 : Nat → Int32) : Int32 × Int32 × Int32 × Int32 :=
  let v_1 : Int32 := (F_x3_sign i12 i13 a1)
  if v_1.toInt = 60 then (f_x3_readComparison_b_6 i13 i14 i15) else (f_x3_readComparison_b_9 i12 i13 i14 i15 a1)
noncomputable def f_x3_readFactor_b_22 (i13 : Int32) (i14 : Int32) (i15 : Int32) : Int32 × Int32 × Int32 × Int32 :=
  let z_23 : Int32 := i13 + (1 : Int32)
  ((1 : Int32), z_23, i14, i15)
noncomputable def f_x3_readFactor_b_25 (i13 : Int32) (i14 : Int32) (i15 : Int32) : Int32 × Int32 × Int32 × Int32 :=
  let z_26 : Int32 := i13 + (1 : Int32)
  ((1 : Int32), z_26, i14, i15)
noncomputable def f_x3_readFactor_b_28 (i13 : Int32) (i14 : Int32) (i15 : Int32) : Int32 × Int32 × Int32 × Int32 :=
  let z_29 : Int32 := i13 + (1 : Int32)
  ((1 : Int32), z_29, i14, i15)
noncomputable def f_x3_readFactor_b_31 (i13 : Int32) (i14 : Int32) (i15 : Int32) : Int32 × Int32 × Int32 × Int32 :=
  let z_32 : Int32 := i13 + (1 : Int32)
  ((1 : Int32), z_32, i14, i15)
noncomputable def f_x3_readFactor_b_34 (i13 : Int32) (i14 : Int32) (i15 : Int32) : Int32 × Int32 × Int32 × Int32 :=
  let z_35 : Int32 := i13 + (1 : Int32)
  ((1 : Int32), z_35, i14, i15)
noncomputable def f_x3_readFactor_b_37 (i13 : Int32) (i14 : Int32) (i15 : Int32) : Int32 × Int32 × Int32 × Int32 :=
  let z_38 : Int32 := i13 + (1 : Int32)
  ((1 : Int32), z_38, i14, i15)
noncomputable def f_x3_readFactor_b_40 (i13 : Int32) : Int32 × Int32 × Int32 × Int32 :=
  let v_41 : Int32 := (F_x3_fail (1 : Int32) i13).1
  let i14_44 : Int32 := (F_x3_fail (1 : Int32) i13).2.1
  let i15_45 : Int32 := (F_x3_fail (1 : Int32) i13).2.2
  (v_41, i13, i14_44, i15_45)
noncomputable def f_x3_readFactor_b_16 (i12 : Int32) (i13 : Int32) (i14 : Int32) (i15 : Int32) (a1 : Nat → Int32) : Int32 × Int32 × Int32 × Int32 :=
  let v_17 : Int32 := (F_x3_sign i12 i13 a1)
  if v_17.toInt = 98 then (f_x3_readFactor_b_22 i13 i14 i15) else if v_17.toInt = 99 then (f_x3_readFactor_b_25 i13 i14 i15) else if v_17.toInt = 100 then (f_x3_readFactor_b_28 i13 i14 i15) else if v_17.toInt = 109 then (f_x3_readFactor_b_31 i13 i14 i15) else if v_17.toInt = 110 then (f_x3_readFactor_b_34 i13 i14 i15) else if v_17.toInt = 118 then (f_x3_readFactor_b_37 i13 i14 i15) else (f_x3_readFactor_b_40 i13)
noncomputable def f_x3_readFactor_b_63 (i13_55 : Int32) (i14_56 : Int32) (i15_57 : Int32) : Int32 × Int32 × Int32 × Int32 :=
  ((0 : Int32), i13_55, i14_56, i15_57)
noncomputable def f_x3_readFactor_b_65 (i13_55 : Int32) (i14_56 : Int32) (i15_57 : Int32) : Int32 × Int32 × Int32 × Int32 :=
  ((1 : Int32), i13_55, i14_56, i15_57)
noncomputable def f_x3_readFactor_b_51 (i12 : Int32) (i13 : Int32) (i14 : Int32) (i15 : Int32) (a1 : Nat → Int32) : Int32 × Int32 × Int32 × Int32 :=
  let v_52 : Int32 := (F_x3_readNumber (99999 : Int32) i12 i13 i14 i15 a1).1
  let i13_55 : Int32 := (F_x3_readNumber (99999 : Int32) i12 i13 i14 i15 a1).2.1
  let i14_56 : Int32 := (F_x3_readNumber (99999 : Int32) i12 i13 i14 i15 a1).2.2.1
  let i15_57 : Int32 := (F_x3_readNumber (99999 : Int32) i12 i13 i14 i15 a1).2.2.2
  if v_52.toInt = (-1) then (f_x3_readFactor_b_63 i13_55 i14_56 i15_57) else (f_x3_readFactor_b_65 i13_55 i14_56 i15_57)
noncomputable def f_x3_readFactor_b_6 (i12 : Int32) (i13 : Int32) (i14 : Int32) (i15 : Int32) (a1 : Nat → Int32) : Int32 × Int32 × Int32 × Int32 :=
  let v_7 : Int32 := (F_x3_sign i12 i13 a1)
  let v_11 : Int32 := (F_x3_isBetween v_7 (48 : Int32) (57 : Int32))
  if v_11.toInt = 0 then (f_x3_readFactor_b_16 i12 i13 i14 i15 a1) else (f_x3_readFactor_b_51 i12 i13 i14 i15 a1)
noncomputable def f_x3_readFactor_b_80 (i13_71 : Int32) (i14_72 : Int32) (i15_73 : Int32) : Int32 × Int32 × Int32 × Int32 :=
  ((0 : Int32), i13_71, i14_72, i15_73)
noncomputable def f_x3_readFactor_b_97 (i13_87 : Int32) (i14_88 : Int32) (i15_89 : Int32) : Int32 × Int32 × Int32 × Int32 :=
  ((0 : Int32), i13_87, i14_88, i15_89)
noncomputable def f_x3_readFactor_b_112 (i13_103 : Int32) (i14_104 : Int32) (i15_105 : Int32) : Int32 × Int32 × Int32 × Int32 :=
  ((0 : Int32), i13_103, i14_104, i15_105)
noncomputable def f_x3_readFactor_b_114 (i13_103 : Int32) (i14_104 : Int32) (i15_105 : Int32) : Int32 × Int32 × Int32 × Int32 :=
  ((1 : Int32), i13_103, i14_104, i15_105)
noncomputable def f_x3_readFactor_b_99 (i12 : Int32) (a1 : Nat → Int32) (i13_87 : Int32) (i14_88 : Int32) (i15_89 : Int32) : Int32 × Int32 × Int32 × Int32 :=
  let v_100 : Int32 := (F_x3_pass (93 : Int32) i12 i13_87 i14_88 i15_89 a1).1
  let i13_103 : Int32 := (F_x3_pass (93 : Int32) i12 i13_87 i14_88 i15_89 a1).2.1
  let i14_104 : Int32 := (F_x3_pass (93 : Int32) i12 i13_87 i14_88 i15_89 a1).2.2.1
  let i15_105 : Int32 := (F_x3_pass (93 : Int32) i12 i13_87 i14_88 i15_89 a1).2.2.2
  if v_100.toInt = 0 then (f_x3_readFactor_b_112 i13_103 i14_104 i15_105) else (f_x3_readFactor_b_114 i13_103 i14_104 i15_105)
noncomputable def f_x3_readFactor_b_95 (i12 : Int32) (a1 : Nat → Int32) (v_84 : Int32) (i13_87 : Int32) (i14_88 : Int32) (i15_89 : Int32) : Int32 × Int32 × Int32 × Int32 :=
  if v_84.toInt = 0 then (f_x3_readFactor_b_97 i13_87 i14_88 i15_89) else (f_x3_readFactor_b_99 i12 a1 i13_87 i14_88 i15_89)
noncomputable def f_x3_readFactor_b_82 (u0 : Int32) (i12 : Int32) (a1 : Nat → Int32) (g1_readSum : Int32 → Int32 → Int32 → Int32 → Int32 → (Nat → Int32) → Int32 × Int32 × Int32 × Int32) (i13_71 : Int32) (i14_72 : Int32) (i15_73 : Int32) : Int32 × Int32 × Int32 × Int32 :=
  let z_83 : Int32 := u0 + (1 : Int32)
  let v_84 : Int32 := (g1_readSum z_83 i12 i13_71 i14_72 i15_73 a1).1
  let i13_87 : Int32 := (g1_readSum z_83 i12 i13_71 i14_72 i15_73 a1).2.1
  let i14_88 : Int32 := (g1_readSum z_83 i12 i13_71 i14_72 i15_73 a1).2.2.1
  let i15_89 : Int32 := (g1_readSum z_83 i12 i13_71 i14_72 i15_73 a1).2.2.2
  (f_x3_readFactor_b_95 i12 a1 v_84 i13_87 i14_88 i15_89)
noncomputable def f_x3_readFactor_b_67 (u0 : Int32) (i12 : Int32) (i13 : Int32) (i14 : Int32) (i15 : Int32) (a1 : Nat → Int32) (g1_readSum : Int32 → Int32 → Int32 → Int32 → Int32 → (Nat → Int32) → Int32 × Int32 × Int32 × Int32) : Int32 × Int32 × Int32 × Int32 :=
  let v_68 : Int32 := (F_x3_readOpening u0 i13 i14 i15).1
  let i13_71 : Int32 := (F_x3_readOpening u0 i13 i14 i15).2.1
  let i14_72 : Int32 := (F_x3_readOpening u0 i13 i14 i15).2.2.1
  let i15_73 : Int32 := (F_x3_readOpening u0 i13 i14 i15).2.2.2
  if v_68.toInt = 0 then (f_x3_readFactor_b_80 i13_71 i14_72 i15_73) else (f_x3_readFactor_b_82 u0 i12 a1 g1_readSum i13_71 i14_72 i15_73)
noncomputable def B_x3_readFactor (u0 : Int32) (i12 : Int32) (i13 : Int32) (i14 : Int32) (i15 : Int32) (a1 : Nat → Int32) (g1_readSum : Int32 → Int32 → Int32 → Int32 → Int32 → (Nat → Int32) → Int32 × Int32 × Int32 × Int32) : Int32 × Int32 × Int32 × Int32 :=
  let v_1 : Int32 := (F_x3_sign i12 i13 a1)
  if v_1.toInt ≠ 91 then (f_x3_readFactor_b_6 i12 i13 i14 i15 a1) else (f_x3_readFactor_b_67 u0 i12 i13 i14 i15 a1 g1_readSum)
noncomputable def f_x3_readTerm_b_22 (x_14 : Int32) (i13_18 : Int32) (i14_19 : Int32) (i15_20 : Int32) : Int32 × Int32 × Int32 × Int32 :=
  (x_14, i13_18, i14_19, i15_20)
noncomputable def f_x3_readTerm_b_26 (x_14 : Int32) (i13_18 : Int32) (i14_19 : Int32) (i15_20 : Int32) : Int32 × Int32 × Int32 × Int32 :=
  (x_14, i13_18, i14_19, i15_20)
noncomputable def f_x3_readTerm_b_35 (x_14 : Int32) (i13_18 : Int32) (i14_19 : Int32) (i15_20 : Int32) : Int32 × Int32 × Int32 × Int32 :=
  (x_14, i13_18, i14_19, i15_20)
noncomputable def f_x3_readTerm_b_50 (x_16 : Int32) (self_J_13 : Int32 → Int32 → Int32 → Int32 → Int32 → Int32 × Int32 × Int32 × Int32) (v_39 : Int32) (i13_42 : Int32) (i14_43 : Int32) (i15_44 : Int32) : Int32 × Int32 × Int32 × Int32 :=
  let z_51 : Int32 := x_16 + Int32.ofInt 1
  self_J_13 v_39 z_51 i13_42 i14_43 i15_44
noncomputable def f_x3_readTerm_b_37 (u0 : Int32) (i12 : Int32) (a1 : Nat → Int32) (g0_readFactor : Int32 → Int32 → Int32 → Int32 → Int32 → (Nat → Int32) → Int32 × Int32 × Int32 × Int32) (x_16 : Int32) (i13_18 : Int32) (i14_19 : Int32) (i15_20 : Int32) (self_J_13 : Int32 → Int32 → Int32 → Int32 → Int32 → Int32 × Int32 × Int32 × Int32) : Int32 × Int32 × Int32 × Int32 :=
  let z_38 : Int32 := i13_18 + (1 : Int32)
  let v_39 : Int32 := (g0_readFactor u0 i12 z_38 i14_19 i15_20 a1).1
  let i13_42 : Int32 := (g0_readFactor u0 i12 z_38 i14_19 i15_20 a1).2.1
  let i14_43 : Int32 := (g0_readFactor u0 i12 z_38 i14_19 i15_20 a1).2.2.1
  let i15_44 : Int32 := (g0_readFactor u0 i12 z_38 i14_19 i15_20 a1).2.2.2
  (f_x3_readTerm_b_50 x_16 self_J_13 v_39 i13_42 i14_43 i15_44)
noncomputable def f_x3_readTerm_b_28 (u0 : Int32) (i12 : Int32) (a1 : Nat → Int32) (g0_readFactor : Int32 → Int32 → Int32 → Int32 → Int32 → (Nat → Int32) → Int32 × Int32 × Int32 × Int32) (x_14 : Int32) (x_16 : Int32) (i13_18 : Int32) (i14_19 : Int32) (i15_20 : Int32) (self_J_13 : Int32 → Int32 → Int32 → Int32 → Int32 → Int32 × Int32 × Int32 × Int32) : Int32 × Int32 × Int32 × Int32 :=
  let v_29 : Int32 := (F_x3_isTermSign i12 i13_18 a1)
  if v_29.toInt = 0 then (f_x3_readTerm_b_35 x_14 i13_18 i14_19 i15_20) else (f_x3_readTerm_b_37 u0 i12 a1 g0_readFactor x_16 i13_18 i14_19 i15_20 self_J_13)
noncomputable def f_x3_readTerm_b_24 (u0 : Int32) (i12 : Int32) (a1 : Nat → Int32) (g0_readFactor : Int32 → Int32 → Int32 → Int32 → Int32 → (Nat → Int32) → Int32 × Int32 × Int32 × Int32) (x_14 : Int32) (x_16 : Int32) (i13_18 : Int32) (i14_19 : Int32) (i15_20 : Int32) (self_J_13 : Int32 → Int32 → Int32 → Int32 → Int32 → Int32 × Int32 × Int32 × Int32) : Int32 × Int32 × Int32 × Int32 :=
  if x_16.toInt ≥ 160 then (f_x3_readTerm_b_26 x_14 i13_18 i14_19 i15_20) else (f_x3_readTerm_b_28 u0 i12 a1 g0_readFactor x_14 x_16 i13_18 i14_19 i15_20 self_J_13)
noncomputable def f_x3_readTerm_J_13 (u0 : Int32) (i12 : Int32) (a1 : Nat → Int32) (g0_readFactor : Int32 → Int32 → Int32 → Int32 → Int32 → (Nat → Int32) → Int32 × Int32 × Int32 × Int32) (x_14 : Int32) (x_16 : Int32) (i13_18 : Int32) (i14_19 : Int32) (i15_20 : Int32) (self_J_13 : Int32 → Int32 → Int32 → Int32 → Int32 → Int32 × Int32 × Int32 × Int32) : Int32 × Int32 × Int32 × Int32 :=
  if x_14.toInt = 0 then (f_x3_readTerm_b_22 x_14 i13_18 i14_19 i15_20) else (f_x3_readTerm_b_24 u0 i12 a1 g0_readFactor x_14 x_16 i13_18 i14_19 i15_20 self_J_13)
noncomputable def f_x3_readTerm_j13 (u0 : Int32) (i12 : Int32) (a1 : Nat → Int32) (g0_readFactor : Int32 → Int32 → Int32 → Int32 → Int32 → (Nat → Int32) → Int32 × Int32 × Int32 × Int32) (n : Nat) : Int32 → Int32 → Int32 → Int32 → Int32 → Int32 × Int32 × Int32 × Int32 :=
  Nat.rec (motive := fun _ => Int32 → Int32 → Int32 → Int32 → Int32 → Int32 × Int32 × Int32 × Int32) (fun _ _ _ _ _ => (0, 0, 0, 0)) (fun _ sq_ x_14 x_16 i13_18 i14_19 i15_20 => f_x3_readTerm_J_13 u0 i12 a1 g0_readFactor x_14 x_16 i13_18 i14_19 i15_20 sq_) n
noncomputable def f_x3_readTerm_b_12 (u0 : Int32) (i12 : Int32) (a1 : Nat → Int32) (g0_readFactor : Int32 → Int32 → Int32 → Int32 → Int32 → (Nat → Int32) → Int32 × Int32 × Int32 × Int32) (v_1 : Int32) (i13_4 : Int32) (i14_5 : Int32) (i15_6 : Int32) : Int32 × Int32 × Int32 × Int32 :=
  f_x3_readTerm_j13 u0 i12 a1 g0_readFactor 161 v_1 ((0 : Int32)) i13_4 i14_5 i15_6
noncomputable def B_x3_readTerm (u0 : Int32) (i12 : Int32) (i13 : Int32) (i14 : Int32) (i15 : Int32) (a1 : Nat → Int32) (g0_readFactor : Int32 → Int32 → Int32 → Int32 → Int32 → (Nat → Int32) → Int32 × Int32 × Int32 × Int32) : Int32 × Int32 × Int32 × Int32 :=
  let v_1 : Int32 := (g0_readFactor u0 i12 i13 i14 i15 a1).1
  let i13_4 : Int32 := (g0_readFactor u0 i12 i13 i14 i15 a1).2.1
  let i14_5 : Int32 := (g0_readFactor u0 i12 i13 i14 i15 a1).2.2.1
  let i15_6 : Int32 := (g0_readFactor u0 i12 i13 i14 i15 a1).2.2.2
  (f_x3_readTerm_b_12 u0 i12 a1 g0_readFactor v_1 i13_4 i14_5 i15_6)
noncomputable def f_x3_readSum_b_22 (x_14 : Int32) (i13_18 : Int32) (i14_19 : Int32) (i15_20 : Int32) : Int32 × Int32 × Int32 × Int32 :=
  (x_14, i13_18, i14_19, i15_20)
noncomputable def f_x3_readSum_b_26 (x_14 : Int32) (i13_18 : Int32) (i14_19 : Int32) (i15_20 : Int32) : Int32 × Int32 × Int32 × Int32 :=
  (x_14, i13_18, i14_19, i15_20)
noncomputable def f_x3_readSum_b_47 (x_16 : Int32) (self_J_13 : Int32 → Int32 → Int32 → Int32 → Int32 → Int32 × Int32 × Int32 × Int32) (v_36 : Int32) (i13_39 : Int32) (i14_40 : Int32) (i15_41 : Int32) : Int32 × Int32 × Int32 × Int32 :=
  let z_48 : Int32 := x_16 + Int32.ofInt 1
  self_J_13 v_36 z_48 i13_39 i14_40 i15_41
noncomputable def f_x3_readSum_b_34 (u0 : Int32) (i12 : Int32) (a1 : Nat → Int32) (g0_readTerm : Int32 → Int32 → Int32 → Int32 → Int32 → (Nat → Int32) → Int32 × Int32 × Int32 × Int32) (x_16 : Int32) (i13_18 : Int32) (i14_19 : Int32) (i15_20 : Int32) (self_J_13 : Int32 → Int32 → Int32 → Int32 → Int32 → Int32 × Int32 × Int32 × Int32) : Int32 × Int32 × Int32 × Int32 :=
  let z_35 : Int32 := i13_18 + (1 : Int32)
  let v_36 : Int32 := (g0_readTerm u0 i12 z_35 i14_19 i15_20 a1).1
  let i13_39 : Int32 := (g0_readTerm u0 i12 z_35 i14_19 i15_20 a1).2.1
  let i14_40 : Int32 := (g0_readTerm u0 i12 z_35 i14_19 i15_20 a1).2.2.1
  let i15_41 : Int32 := (g0_readTerm u0 i12 z_35 i14_19 i15_20 a1).2.2.2
  (f_x3_readSum_b_47 x_16 self_J_13 v_36 i13_39 i14_40 i15_41)
noncomputable def f_x3_readSum_b_55 (x_14 : Int32) (i13_18 : Int32) (i14_19 : Int32) (i15_20 : Int32) : Int32 × Int32 × Int32 × Int32 :=
  (x_14, i13_18, i14_19, i15_20)
noncomputable def f_x3_readSum_b_70 (x_16 : Int32) (self_J_13 : Int32 → Int32 → Int32 → Int32 → Int32 → Int32 × Int32 × Int32 × Int32) (v_59 : Int32) (i13_62 : Int32) (i14_63 : Int32) (i15_64 : Int32) : Int32 × Int32 × Int32 × Int32 :=
  let z_71 : Int32 := x_16 + Int32.ofInt 1
  self_J_13 v_59 z_71 i13_62 i14_63 i15_64
noncomputable def f_x3_readSum_b_57 (u0 : Int32) (i12 : Int32) (a1 : Nat → Int32) (g0_readTerm : Int32 → Int32 → Int32 → Int32 → Int32 → (Nat → Int32) → Int32 × Int32 × Int32 × Int32) (x_16 : Int32) (i13_18 : Int32) (i14_19 : Int32) (i15_20 : Int32) (self_J_13 : Int32 → Int32 → Int32 → Int32 → Int32 → Int32 × Int32 × Int32 × Int32) : Int32 × Int32 × Int32 × Int32 :=
  let z_58 : Int32 := i13_18 + (1 : Int32)
  let v_59 : Int32 := (g0_readTerm u0 i12 z_58 i14_19 i15_20 a1).1
  let i13_62 : Int32 := (g0_readTerm u0 i12 z_58 i14_19 i15_20 a1).2.1
  let i14_63 : Int32 := (g0_readTerm u0 i12 z_58 i14_19 i15_20 a1).2.2.1
  let i15_64 : Int32 := (g0_readTerm u0 i12 z_58 i14_19 i15_20 a1).2.2.2
  (f_x3_readSum_b_70 x_16 self_J_13 v_59 i13_62 i14_63 i15_64)
noncomputable def f_x3_readSum_b_49 (u0 : Int32) (i12 : Int32) (a1 : Nat → Int32) (g0_readTerm : Int32 → Int32 → Int32 → Int32 → Int32 → (Nat → Int32) → Int32 × Int32 × Int32 × Int32) (x_14 : Int32) (x_16 : Int32) (i13_18 : Int32) (i14_19 : Int32) (i15_20 : Int32) (self_J_13 : Int32 → Int32 → Int32 → Int32 → Int32 → Int32 × Int32 × Int32 × Int32) : Int32 × Int32 × Int32 × Int32 :=
  let v_50 : Int32 := (F_x3_sign i12 i13_18 a1)
  if v_50.toInt ≠ 45 then (f_x3_readSum_b_55 x_14 i13_18 i14_19 i15_20) else (f_x3_readSum_b_57 u0 i12 a1 g0_readTerm x_16 i13_18 i14_19 i15_20 self_J_13)
noncomputable def f_x3_readSum_b_28 (u0 : Int32) (i12 : Int32) (a1 : Nat → Int32) (g0_readTerm : Int32 → Int32 → Int32 → Int32 → Int32 → (Nat → Int32) → Int32 × Int32 × Int32 × Int32) (x_14 : Int32) (x_16 : Int32) (i13_18 : Int32) (i14_19 : Int32) (i15_20 : Int32) (self_J_13 : Int32 → Int32 → Int32 → Int32 → Int32 → Int32 × Int32 × Int32 × Int32) : Int32 × Int32 × Int32 × Int32 :=
  let v_29 : Int32 := (F_x3_sign i12 i13_18 a1)
  if v_29.toInt = 43 then (f_x3_readSum_b_34 u0 i12 a1 g0_readTerm x_16 i13_18 i14_19 i15_20 self_J_13) else (f_x3_readSum_b_49 u0 i12 a1 g0_readTerm x_14 x_16 i13_18 i14_19 i15_20 self_J_13)
noncomputable def f_x3_readSum_b_24 (u0 : Int32) (i12 : Int32) (a1 : Nat → Int32) (g0_readTerm : Int32 → Int32 → Int32 → Int32 → Int32 → (Nat → Int32) → Int32 × Int32 × Int32 × Int32) (x_14 : Int32) (x_16 : Int32) (i13_18 : Int32) (i14_19 : Int32) (i15_20 : Int32) (self_J_13 : Int32 → Int32 → Int32 → Int32 → Int32 → Int32 × Int32 × Int32 × Int32) : Int32 × Int32 × Int32 × Int32 :=
  if x_16.toInt ≥ 160 then (f_x3_readSum_b_26 x_14 i13_18 i14_19 i15_20) else (f_x3_readSum_b_28 u0 i12 a1 g0_readTerm x_14 x_16 i13_18 i14_19 i15_20 self_J_13)
noncomputable def f_x3_readSum_J_13 (u0 : Int32) (i12 : Int32) (a1 : Nat → Int32) (g0_readTerm : Int32 → Int32 → Int32 → Int32 → Int32 → (Nat → Int32) → Int32 × Int32 × Int32 × Int32) (x_14 : Int32) (x_16 : Int32) (i13_18 : Int32) (i14_19 : Int32) (i15_20 : Int32) (self_J_13 : Int32 → Int32 → Int32 → Int32 → Int32 → Int32 × Int32 × Int32 × Int32) : Int32 × Int32 × Int32 × Int32 :=
  if x_14.toInt = 0 then (f_x3_readSum_b_22 x_14 i13_18 i14_19 i15_20) else (f_x3_readSum_b_24 u0 i12 a1 g0_readTerm x_14 x_16 i13_18 i14_19 i15_20 self_J_13)
noncomputable def f_x3_readSum_j13 (u0 : Int32) (i12 : Int32) (a1 : Nat → Int32) (g0_readTerm : Int32 → Int32 → Int32 → Int32 → Int32 → (Nat → Int32) → Int32 × Int32 × Int32 × Int32) (n : Nat) : Int32 → Int32 → Int32 → Int32 → Int32 → Int32 × Int32 × Int32 × Int32 :=
  Nat.rec (motive := fun _ => Int32 → Int32 → Int32 → Int32 → Int32 → Int32 × Int32 × Int32 × Int32) (fun _ _ _ _ _ => (0, 0, 0, 0)) (fun _ sq_ x_14 x_16 i13_18 i14_19 i15_20 => f_x3_readSum_J_13 u0 i12 a1 g0_readTerm x_14 x_16 i13_18 i14_19 i15_20 sq_) n
