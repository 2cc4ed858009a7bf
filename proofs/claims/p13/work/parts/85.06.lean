noncomputable def f_x11_rules_b_91 (i9 : Int32) (a18 : Nat → Int32) (a19 : Nat → Int32) (a20 : Nat → Int32) (a21 : Nat → Int32) (v_36 : Int32) (i12_39 : Int32) (i13_40 : Int32) (i14_41 : Int32) (i15_42 : Int32) (i16_43 : Int32) (a22_44 : Nat → Int32) (a23_45 : Nat → Int32) (a24_46 : Nat → Int32) (a25_47 : Nat → Int32) (a26_48 : Nat → Int32) : Int32 × Int32 × Int32 × Int32 × Int32 × Int32 × Int32 × Int32 × (Nat → Int32) × (Nat → Int32) × (Nat → Int32) × (Nat → Int32) × (Nat → Int32) × (Nat → Int32) × (Nat → Int32) × (Nat → Int32) × (Nat → Int32) :=
  (v_36, (0 : Int32), i9, i12_39, i13_40, i14_41, i15_42, i16_43, a18, a19, a20, a21, a22_44, a23_45, a24_46, a25_47, a26_48)
noncomputable def f_x11_rules_b_35 (u0 : Int32) (u1 : Int32) (u2 : Int32) (u3 : Int32) (i9 : Int32) (i15 : Int32) (a1 : Nat → Int32) (a18 : Nat → Int32) (a19 : Nat → Int32) (a20 : Nat → Int32) (a21 : Nat → Int32) (a22 : Nat → Int32) (a23 : Nat → Int32) (a24 : Nat → Int32) (a25 : Nat → Int32) (a26 : Nat → Int32) : Int32 × Int32 × Int32 × Int32 × Int32 × Int32 × Int32 × Int32 × (Nat → Int32) × (Nat → Int32) × (Nat → Int32) × (Nat → Int32) × (Nat → Int32) × (Nat → Int32) × (Nat → Int32) × (Nat → Int32) × (Nat → Int32) :=
  let v_36 : Int32 := (F_x3_read u3 i9 i15 a1 a22 a23 a24 a25 a26).1
  let i12_39 : Int32 := (F_x3_read u3 i9 i15 a1 a22 a23 a24 a25 a26).2.1
  let i13_40 : Int32 := (F_x3_read u3 i9 i15 a1 a22 a23 a24 a25 a26).2.2.1
  let i14_41 : Int32 := (F_x3_read u3 i9 i15 a1 a22 a23 a24 a25 a26).2.2.2.1
  let i15_42 : Int32 := (F_x3_read u3 i9 i15 a1 a22 a23 a24 a25 a26).2.2.2.2.1
  let i16_43 : Int32 := (F_x3_read u3 i9 i15 a1 a22 a23 a24 a25 a26).2.2.2.2.2.1
  let a22_44 : Nat → Int32 := (F_x3_read u3 i9 i15 a1 a22 a23 a24 a25 a26).2.2.2.2.2.2.1
  let a23_45 : Nat → Int32 := (F_x3_read u3 i9 i15 a1 a22 a23 a24 a25 a26).2.2.2.2.2.2.2.1
  let a24_46 : Nat → Int32 := (F_x3_read u3 i9 i15 a1 a22 a23 a24 a25 a26).2.2.2.2.2.2.2.2.1
  let a25_47 : Nat → Int32 := (F_x3_read u3 i9 i15 a1 a22 a23 a24 a25 a26).2.2.2.2.2.2.2.2.2.1
  let a26_48 : Nat → Int32 := (F_x3_read u3 i9 i15 a1 a22 a23 a24 a25 a26).2.2.2.2.2.2.2.2.2.2
  if v_36.toInt = 0 then (f_x11_rules_b_63 u0 u1 u2 u3 i9 a18 a19 a20 a21 i12_39 i13_40 i14_41 i15_42 i16_43 a22_44 a23_45 a24_46 a25_47 a26_48) else (f_x11_rules_b_91 i9 a18 a19 a20 a21 v_36 i12_39 i13_40 i14_41 i15_42 i16_43 a22_44 a23_45 a24_46 a25_47 a26_48)
noncomputable def f_x11_rules_b_93 (i0 : Int32) (i9 : Int32) (i12 : Int32) (i13 : Int32) (i14 : Int32) (i15 : Int32) (i16 : Int32) (a18 : Nat → Int32) (a19 : Nat → Int32) (a20 : Nat → Int32) (a21 : Nat → Int32) (a22 : Nat → Int32) (a23 : Nat → Int32) (a24 : Nat → Int32) (a25 : Nat → Int32) (a26 : Nat → Int32) : Int32 × Int32 × Int32 × Int32 × Int32 × Int32 × Int32 × Int32 × (Nat → Int32) × (Nat → Int32) × (Nat → Int32) × (Nat → Int32) × (Nat → Int32) × (Nat → Int32) × (Nat → Int32) × (Nat → Int32) × (Nat → Int32) :=
  ((-1 : Int32), i0, i9, i12, i13, i14, i15, i16, a18, a19, a20, a21, a22, a23, a24, a25, a26)
noncomputable def f_x11_rules_b_28 (u0 : Int32) (u1 : Int32) (u2 : Int32) (u3 : Int32) (i0 : Int32) (i9 : Int32) (i12 : Int32) (i13 : Int32) (i14 : Int32) (i15 : Int32) (i16 : Int32) (a1 : Nat → Int32) (a18 : Nat → Int32) (a19 : Nat → Int32) (a20 : Nat → Int32) (a21 : Nat → Int32) (a22 : Nat → Int32) (a23 : Nat → Int32) (a24 : Nat → Int32) (a25 : Nat → Int32) (a26 : Nat → Int32) : Int32 × Int32 × Int32 × Int32 × Int32 × Int32 × Int32 × Int32 × (Nat → Int32) × (Nat → Int32) × (Nat → Int32) × (Nat → Int32) × (Nat → Int32) × (Nat → Int32) × (Nat → Int32) × (Nat → Int32) × (Nat → Int32) :=
  let v_29 : Int32 := (F_x11_tapeHas u3 (160 : Int32) i0)
  if v_29.toInt ≠ 0 then (f_x11_rules_b_35 u0 u1 u2 u3 i9 i15 a1 a18 a19 a20 a21 a22 a23 a24 a25 a26) else (f_x11_rules_b_93 i0 i9 i12 i13 i14 i15 i16 a18 a19 a20 a21 a22 a23 a24 a25 a26)
noncomputable def f_x11_rules_b_19 (u0 : Int32) (u1 : Int32) (u2 : Int32) (u3 : Int32) (i0 : Int32) (i9 : Int32) (i12 : Int32) (i13 : Int32) (i14 : Int32) (i15 : Int32) (i16 : Int32) (a1 : Nat → Int32) (a18 : Nat → Int32) (a19 : Nat → Int32) (a20 : Nat → Int32) (a21 : Nat → Int32) (a22 : Nat → Int32) (a23 : Nat → Int32) (a24 : Nat → Int32) (a25 : Nat → Int32) (a26 : Nat → Int32) : Int32 × Int32 × Int32 × Int32 × Int32 × Int32 × Int32 × Int32 × (Nat → Int32) × (Nat → Int32) × (Nat → Int32) × (Nat → Int32) × (Nat → Int32) × (Nat → Int32) × (Nat → Int32) × (Nat → Int32) × (Nat → Int32) :=
  let v_20 : Int32 := (F_x2_isFull i9)
  if v_20.toInt ≠ 0 then (f_x11_rules_b_26 i0 i9 i12 i13 i14 i15 i16 a18 a19 a20 a21 a22 a23 a24 a25 a26) else (f_x11_rules_b_28 u0 u1 u2 u3 i0 i9 i12 i13 i14 i15 i16 a1 a18 a19 a20 a21 a22 a23 a24 a25 a26)
noncomputable def f_x11_rules_b_95 (i0 : Int32) (i9 : Int32) (i12 : Int32) (i13 : Int32) (i14 : Int32) (i15 : Int32) (i16 : Int32) (a18 : Nat → Int32) (a19 : Nat → Int32) (a20 : Nat → Int32) (a21 : Nat → Int32) (a22 : Nat → Int32) (a23 : Nat → Int32) (a24 : Nat → Int32) (a25 : Nat → Int32) (a26 : Nat → Int32) : Int32 × Int32 × Int32 × Int32 × Int32 × Int32 × Int32 × Int32 × (Nat → Int32) × (Nat → Int32) × (Nat → Int32) × (Nat → Int32) × (Nat → Int32) × (Nat → Int32) × (Nat → Int32) × (Nat → Int32) × (Nat → Int32) :=
  ((-1 : Int32), i0, i9, i12, i13, i14, i15, i16, a18, a19, a20, a21, a22, a23, a24, a25, a26)
noncomputable def f_x11_rules_b_17 (u0 : Int32) (u1 : Int32) (u2 : Int32) (u3 : Int32) (i0 : Int32) (i9 : Int32) (i12 : Int32) (i13 : Int32) (i14 : Int32) (i15 : Int32) (i16 : Int32) (a1 : Nat → Int32) (a18 : Nat → Int32) (a19 : Nat → Int32) (a20 : Nat → Int32) (a21 : Nat → Int32) (a22 : Nat → Int32) (a23 : Nat → Int32) (a24 : Nat → Int32) (a25 : Nat → Int32) (a26 : Nat → Int32) : Int32 × Int32 × Int32 × Int32 × Int32 × Int32 × Int32 × Int32 × (Nat → Int32) × (Nat → Int32) × (Nat → Int32) × (Nat → Int32) × (Nat → Int32) × (Nat → Int32) × (Nat → Int32) × (Nat → Int32) × (Nat → Int32) :=
  if u2.toInt ≥ u1.toInt then (f_x11_rules_b_19 u0 u1 u2 u3 i0 i9 i12 i13 i14 i15 i16 a1 a18 a19 a20 a21 a22 a23 a24 a25 a26) else (f_x11_rules_b_95 i0 i9 i12 i13 i14 i15 i16 a18 a19 a20 a21 a22 a23 a24 a25 a26)
noncomputable def f_x11_rules_b_9 (u0 : Int32) (u1 : Int32) (u2 : Int32) (u3 : Int32) (i0 : Int32) (i9 : Int32) (i12 : Int32) (i13 : Int32) (i14 : Int32) (i15 : Int32) (i16 : Int32) (a1 : Nat → Int32) (a18 : Nat → Int32) (a19 : Nat → Int32) (a20 : Nat → Int32) (a21 : Nat → Int32) (a22 : Nat → Int32) (a23 : Nat → Int32) (a24 : Nat → Int32) (a25 : Nat → Int32) (a26 : Nat → Int32) : Int32 × Int32 × Int32 × Int32 × Int32 × Int32 × Int32 × Int32 × (Nat → Int32) × (Nat → Int32) × (Nat → Int32) × (Nat → Int32) × (Nat → Int32) × (Nat → Int32) × (Nat → Int32) × (Nat → Int32) × (Nat → Int32) :=
  let v_10 : Int32 := (F_x11_isDay u2)
  if v_10.toInt = 0 then (f_x11_rules_b_15 i0 i9 i12 i13 i14 i15 i16 a18 a19 a20 a21 a22 a23 a24 a25 a26) else (f_x11_rules_b_17 u0 u1 u2 u3 i0 i9 i12 i13 i14 i15 i16 a1 a18 a19 a20 a21 a22 a23 a24 a25 a26)
noncomputable def f_x11_rules_J_1 (u0 : Int32) (u1 : Int32) (u2 : Int32) (u3 : Int32) (i0 : Int32) (i9 : Int32) (i12 : Int32) (i13 : Int32) (i14 : Int32) (i15 : Int32) (i16 : Int32) (a1 : Nat → Int32) (a18 : Nat → Int32) (a19 : Nat → Int32) (a20 : Nat → Int32) (a21 : Nat → Int32) (a22 : Nat → Int32) (a23 : Nat → Int32) (a24 : Nat → Int32) (a25 : Nat → Int32) (a26 : Nat → Int32) : Int32 × Int32 × Int32 × Int32 × Int32 × Int32 × Int32 × Int32 × (Nat → Int32) × (Nat → Int32) × (Nat → Int32) × (Nat → Int32) × (Nat → Int32) × (Nat → Int32) × (Nat → Int32) × (Nat → Int32) × (Nat → Int32) :=
  let v_2 : Int32 := (F_x11_isDay u1)
  if v_2.toInt = 0 then (f_x11_rules_b_7 i0 i9 i12 i13 i14 i15 i16 a18 a19 a20 a21 a22 a23 a24 a25 a26) else (f_x11_rules_b_9 u0 u1 u2 u3 i0 i9 i12 i13 i14 i15 i16 a1 a18 a19 a20 a21 a22 a23 a24 a25 a26)
noncomputable def f_x11_rules_j1 (u0 : Int32) (u1 : Int32) (u2 : Int32) (u3 : Int32) (i0 : Int32) (i9 : Int32) (i12 : Int32) (i13 : Int32) (i14 : Int32) (i15 : Int32) (i16 : Int32) (a1 : Nat → Int32) (a18 : Nat → Int32) (a19 : Nat → Int32) (a20 : Nat → Int32) (a21 : Nat → Int32) (a22 : Nat → Int32) (a23 : Nat → Int32) (a24 : Nat → Int32) (a25 : Nat → Int32) (a26 : Nat → Int32) : Int32 × Int32 × Int32 × Int32 × Int32 × Int32 × Int32 × Int32 × (Nat → Int32) × (Nat → Int32) × (Nat → Int32) × (Nat → Int32) × (Nat → Int32) × (Nat → Int32) × (Nat → Int32) × (Nat → Int32) × (Nat → Int32) := f_x11_rules_J_1 u0 u1 u2 u3 i0 i9 i12 i13 i14 i15 i16 a1 a18 a19 a20 a21 a22 a23 a24 a25 a26
noncomputable def f_x11_rules_b_98 (u0 : Int32) (u1 : Int32) (u2 : Int32) (u3 : Int32) (i0 : Int32) (i9 : Int32) (i12 : Int32) (i13 : Int32) (i14 : Int32) (i15 : Int32) (i16 : Int32) (a1 : Nat → Int32) (a18 : Nat → Int32) (a19 : Nat → Int32) (a20 : Nat → Int32) (a21 : Nat → Int32) (a22 : Nat → Int32) (a23 : Nat → Int32) (a24 : Nat → Int32) (a25 : Nat → Int32) (a26 : Nat → Int32) : Int32 × Int32 × Int32 × Int32 × Int32 × Int32 × Int32 × Int32 × (Nat → Int32) × (Nat → Int32) × (Nat → Int32) × (Nat → Int32) × (Nat → Int32) × (Nat → Int32) × (Nat → Int32) × (Nat → Int32) × (Nat → Int32) :=
  f_x11_rules_j1 u0 u1 u2 u3 i0 i9 i12 i13 i14 i15 i16 a1 a18 a19 a20 a21 a22 a23 a24 a25 a26
noncomputable def f_x11_rules_b_106 (u0 : Int32) (u1 : Int32) (u2 : Int32) (u3 : Int32) (i0 : Int32) (i9 : Int32) (i12 : Int32) (i13 : Int32) (i14 : Int32) (i15 : Int32) (i16 : Int32) (a1 : Nat → Int32) (a18 : Nat → Int32) (a19 : Nat → Int32) (a20 : Nat → Int32) (a21 : Nat → Int32) (a22 : Nat → Int32) (a23 : Nat → Int32) (a24 : Nat → Int32) (a25 : Nat → Int32) (a26 : Nat → Int32) : Int32 × Int32 × Int32 × Int32 × Int32 × Int32 × Int32 × Int32 × (Nat → Int32) × (Nat → Int32) × (Nat → Int32) × (Nat → Int32) × (Nat → Int32) × (Nat → Int32) × (Nat → Int32) × (Nat → Int32) × (Nat → Int32) :=
  f_x11_rules_j1 u0 u1 u2 u3 i0 i9 i12 i13 i14 i15 i16 a1 a18 a19 a20 a21 a22 a23 a24 a25 a26
noncomputable def f_x11_rules_b_107 (i0 : Int32) (i9 : Int32) (i12 : Int32) (i13 : Int32) (i14 : Int32) (i15 : Int32) (i16 : Int32) (a18 : Nat → Int32) (a19 : Nat → Int32) (a20 : Nat → Int32) (a21 : Nat → Int32) (a22 : Nat → Int32) (a23 : Nat → Int32) (a24 : Nat → Int32) (a25 : Nat → Int32) (a26 : Nat → Int32) : Int32 × Int32 × Int32 × Int32 × Int32 × Int32 × Int32 × Int32 × (Nat → Int32) × (Nat → Int32) × (Nat → Int32) × (Nat → Int32) × (Nat → Int32) × (Nat → Int32) × (Nat → Int32) × (Nat → Int32) × (Nat → Int32) :=
  ((-1 : Int32), i0, i9, i12, i13, i14, i15, i16, a18, a19, a20, a21, a22, a23, a24, a25, a26)
noncomputable def f_x11_rules_b_99 (u0 : Int32) (u1 : Int32) (u2 : Int32) (u3 : Int32) (i0 : Int32) (i6 : Int32) (i9 : Int32) (i12 : Int32) (i13 : Int32) (i14 : Int32) (i15 : Int32) (i16 : Int32) (a1 : Nat → Int32) (a18 : Nat → Int32) (a19 : Nat → Int32) (a20 : Nat → Int32) (a21 : Nat → Int32) (a22 : Nat → Int32) (a23 : Nat → Int32) (a24 : Nat → Int32) (a25 : Nat → Int32) (a26 : Nat → Int32) : Int32 × Int32 × Int32 × Int32 × Int32 × Int32 × Int32 × Int32 × (Nat → Int32) × (Nat → Int32) × (Nat → Int32) × (Nat → Int32) × (Nat → Int32) × (Nat → Int32) × (Nat → Int32) × (Nat → Int32) × (Nat → Int32) :=
  let v_100 : Int32 := (F_x4_hasCompany u0 i6)
  if v_100.toInt ≠ 0 then (f_x11_rules_b_106 u0 u1 u2 u3 i0 i9 i12 i13 i14 i15 i16 a1 a18 a19 a20 a21 a22 a23 a24 a25 a26) else (f_x11_rules_b_107 i0 i9 i12 i13 i14 i15 i16 a18 a19 a20 a21 a22 a23 a24 a25 a26)
noncomputable def F_x11_rules (u0 : Int32) (u1 : Int32) (u2 : Int32) (u3 : Int32) (i0 : Int32) (i6 : Int32) (i9 : Int32) (i12 : Int32) (i13 : Int32) (i14 : Int32) (i15 : Int32) (i16 : Int32) (a1 : Nat → Int32) (a18 : Nat → Int32) (a19 : Nat → Int32) (a20 : Nat → Int32) (a21 : Nat → Int32) (a22 : Nat → Int32) (a23 : Nat → Int32) (a24 : Nat → Int32) (a25 : Nat → Int32) (a26 : Nat → Int32) : Int32 × Int32 × Int32 × Int32 × Int32 × Int32 × Int32 × Int32 × (Nat → Int32) × (Nat → Int32) × (Nat → Int32) × (Nat → Int32) × (Nat → Int32) × (Nat → Int32) × (Nat → Int32) × (Nat → Int32) × (Nat → Int32) :=
  if u0.toInt = (-1) then (f_x11_rules_b_98 u0 u1 u2 u3 i0 i9 i12 i13 i14 i15 i16 a1 a18 a19 a20 a21 a22 a23 a24 a25 a26) else (f_x11_rules_b_99 u0 u1 u2 u3 i0 i6 i9 i12 i13 i14 i15 i16 a1 a18 a19 a20 a21 a22 a23 a24 a25 a26)
noncomputable def f_x2_clausesOf_b_2  : Int32 :=
  (0 : Int32)
noncomputable def f_x2_clausesOf_b_6  : Int32 :=
  (0 : Int32)
noncomputable def f_x2_clausesOf_b_8 (u0 : Int32) (a21 : Nat → Int32) : Int32 :=
  let z_9 : Int32 := a21 u0.toNatClampNeg
  z_9
noncomputable def f_x2_clausesOf_b_4 (u0 : Int32) (i9 : Int32) (a21 : Nat → Int32) : Int32 :=
  if u0.toInt ≥ i9.toInt then f_x2_clausesOf_b_6 else (f_x2_clausesOf_b_8 u0 a21)
noncomputable def F_x2_clausesOf (u0 : Int32) (i9 : Int32) (a21 : Nat → Int32) : Int32 :=
  if u0.toInt < 0 then f_x2_clausesOf_b_2 else (f_x2_clausesOf_b_4 u0 i9 a21)
noncomputable def f_x2_hasClause_b_2  : Int32 :=
  (0 : Int32)
noncomputable def f_x2_hasClause_b_11  : Int32 :=
  (0 : Int32)
noncomputable def f_x2_hasClause_b_13  : Int32 :=
  (1 : Int32)
noncomputable def f_x2_hasClause_b_4 (u0 : Int32) (u1 : Int32) (i9 : Int32) (a21 : Nat → Int32) : Int32 :=
  let v_5 : Int32 := (F_x2_clausesOf u0 i9 a21)
  if u1.toInt ≥ v_5.toInt then f_x2_hasClause_b_11 else f_x2_hasClause_b_13
noncomputable def F_x2_hasClause (u0 : Int32) (u1 : Int32) (i9 : Int32) (a21 : Nat → Int32) : Int32 :=
  if u1.toInt < 0 then f_x2_hasClause_b_2 else (f_x2_hasClause_b_4 u0 u1 i9 a21)
noncomputable def f_x9_bookOf_b_7  : Int32 :=
  (-1 : Int32)
noncomputable def f_x9_bookOf_b_9 (u0 : Int32) (a7 : Nat → Int32) : Int32 :=
  let z_10 : Int32 := a7 u0.toNatClampNeg
  z_10
noncomputable def F_x9_bookOf (u0 : Int32) (i3 : Int32) (a7 : Nat → Int32) : Int32 :=
  let v_1 : Int32 := (F_x9_has u0 i3)
  if v_1.toInt = 0 then f_x9_bookOf_b_7 else (f_x9_bookOf_b_9 u0 a7)
noncomputable def f_x9_measureOf_b_7  : Int32 :=
  (0 : Int32)
noncomputable def f_x9_measureOf_b_9 (u0 : Int32) (a8 : Nat → Int32) : Int32 :=
  let z_10 : Int32 := a8 u0.toNatClampNeg
  z_10
noncomputable def F_x9_measureOf (u0 : Int32) (i3 : Int32) (a8 : Nat → Int32) : Int32 :=
  let v_1 : Int32 := (F_x9_has u0 i3)
  if v_1.toInt = 0 then f_x9_measureOf_b_7 else (f_x9_measureOf_b_9 u0 a8)
noncomputable def f_x4_hasBook_b_7  : Int32 :=
  (0 : Int32)
noncomputable def f_x4_hasBook_b_14  : Int32 :=
  (0 : Int32)
noncomputable def f_x4_hasBook_b_16  : Int32 :=
  (1 : Int32)
noncomputable def f_x4_hasBook_b_9 (u0 : Int32) (u1 : Int32) (a13 : Nat → Int32) : Int32 :=
  let z_10 : Int32 := a13 u0.toNatClampNeg
  let z_11 : Int32 := (1 : Int32) <<< (u1 &&& 31)
  let z_12 : Int32 := z_10 &&& z_11
  if z_12.toInt = 0 then f_x4_hasBook_b_14 else f_x4_hasBook_b_16
noncomputable def F_x4_hasBook (u0 : Int32) (u1 : Int32) (i6 : Int32) (a13 : Nat → Int32) : Int32 :=
  let v_1 : Int32 := (F_x4_hasCompany u0 i6)
  if v_1.toInt = 0 then f_x4_hasBook_b_7 else (f_x4_hasBook_b_9 u0 u1 a13)
noncomputable def f_x4_companyOf_b_5  : Int32 :=
  (-1 : Int32)
noncomputable def f_x4_companyOf_b_14 (x_2 : Int32) (self_J_1 : Int32 → Int32) : Int32 :=
  let z_15 : Int32 := x_2 + Int32.ofInt 1
  self_J_1 z_15
noncomputable def f_x4_companyOf_b_16 (x_2 : Int32) : Int32 :=
  x_2
noncomputable def f_x4_companyOf_b_7 (u0 : Int32) (i6 : Int32) (a13 : Nat → Int32) (x_2 : Int32) (self_J_1 : Int32 → Int32) : Int32 :=
  let v_8 : Int32 := (F_x4_hasBook x_2 u0 i6 a13)
  if v_8.toInt = 0 then (f_x4_companyOf_b_14 x_2 self_J_1) else (f_x4_companyOf_b_16 x_2)
noncomputable def f_x4_companyOf_J_1 (u0 : Int32) (i6 : Int32) (a13 : Nat → Int32) (x_2 : Int32) (self_J_1 : Int32 → Int32) : Int32 :=
  if x_2.toInt ≥ i6.toInt then f_x4_companyOf_b_5 else (f_x4_companyOf_b_7 u0 i6 a13 x_2 self_J_1)
noncomputable def f_x4_companyOf_j1 (u0 : Int32) (i6 : Int32) (a13 : Nat → Int32) (n : Nat) : Int32 → Int32 :=
  Nat.rec (motive := fun _ => Int32 → Int32) (fun _ => 0) (fun _ sq_ x_2 => f_x4_companyOf_J_1 u0 i6 a13 x_2 sq_) n
noncomputable def F_x4_companyOf (u0 : Int32) (i6 : Int32) (a13 : Nat → Int32) : Int32 :=
  f_x4_companyOf_j1 u0 i6 a13 7 ((0 : Int32))
noncomputable def F_x2_size (i9 : Int32) : Int32 :=
  i9
noncomputable def f_x2_binds_b_2  : Int32 :=
  (0 : Int32)
noncomputable def f_x2_binds_b_6  : Int32 :=
  (0 : Int32)
noncomputable def f_x2_binds_b_11  : Int32 :=
  (0 : Int32)
noncomputable def f_x2_binds_b_19  : Int32 :=
  (1 : Int32)
noncomputable def f_x2_binds_b_24  : Int32 :=
  (0 : Int32)
noncomputable def f_x2_binds_b_26  : Int32 :=
  (1 : Int32)
noncomputable def f_x2_binds_b_21 (u0 : Int32) (u1 : Int32) (a18 : Nat → Int32) : Int32 :=
  let z_22 : Int32 := a18 u0.toNatClampNeg
  if z_22.toInt ≠ u1.toInt then f_x2_binds_b_24 else f_x2_binds_b_26
noncomputable def f_x2_binds_b_16 (u0 : Int32) (u1 : Int32) (a18 : Nat → Int32) : Int32 :=
  let z_17 : Int32 := a18 u0.toNatClampNeg
  if z_17.toInt = (-1) then f_x2_binds_b_19 else (f_x2_binds_b_21 u0 u1 a18)
noncomputable def f_x2_binds_b_28  : Int32 :=
  (0 : Int32)
noncomputable def f_x2_binds_b_13 (u0 : Int32) (u1 : Int32) (u2 : Int32) (a18 : Nat → Int32) (a20 : Nat → Int32) : Int32 :=
  let z_14 : Int32 := a20 u0.toNatClampNeg
  if u2.toInt ≤ z_14.toInt then (f_x2_binds_b_16 u0 u1 a18) else f_x2_binds_b_28
noncomputable def f_x2_binds_b_8 (u0 : Int32) (u1 : Int32) (u2 : Int32) (a18 : Nat → Int32) (a19 : Nat → Int32) (a20 : Nat → Int32) : Int32 :=
  let z_9 : Int32 := a19 u0.toNatClampNeg
  if u2.toInt < z_9.toInt then f_x2_binds_b_11 else (f_x2_binds_b_13 u0 u1 u2 a18 a20)
noncomputable def f_x2_binds_b_4 (u0 : Int32) (u1 : Int32) (u2 : Int32) (i9 : Int32) (a18 : Nat → Int32) (a19 : Nat → Int32) (a20 : Nat → Int32) : Int32 :=
  if u0.toInt ≥ i9.toInt then f_x2_binds_b_6 else (f_x2_binds_b_8 u0 u1 u2 a18 a19 a20)
noncomputable def F_x2_binds (u0 : Int32) (u1 : Int32) (u2 : Int32) (i9 : Int32) (a18 : Nat → Int32) (a19 : Nat → Int32) (a20 : Nat → Int32) : Int32 :=
  if u0.toInt < 0 then f_x2_binds_b_2 else (f_x2_binds_b_4 u0 u1 u2 i9 a18 a19 a20)
noncomputable def f_x6_isInForce_b_4  : Int32 :=
  (0 : Int32)
noncomputable def f_x6_isInForce_b_6  : Int32 :=
  (1 : Int32)
noncomputable def F_x6_isInForce (u0 : Int32) (i20 : Int32) : Int32 :=
  let z_1 : Int32 := (1 : Int32) <<< (u0 &&& 31)
  let z_2 : Int32 := i20 &&& z_1
  if z_2.toInt = 0 then f_x6_isInForce_b_4 else f_x6_isInForce_b_6
noncomputable def f_x2_isNumber_b_2  : Int32 :=
  (0 : Int32)
noncomputable def f_x2_isNumber_b_6  : Int32 :=
  (0 : Int32)
noncomputable def f_x2_isNumber_b_8  : Int32 :=
  (1 : Int32)
noncomputable def f_x2_isNumber_b_4 (u0 : Int32) : Int32 :=
  if u0.toInt ≥ 320 then f_x2_isNumber_b_6 else f_x2_isNumber_b_8
noncomputable def F_x2_isNumber (u0 : Int32) : Int32 :=
  if u0.toInt < 0 then f_x2_isNumber_b_2 else (f_x2_isNumber_b_4 u0)
noncomputable def f_x2_isOf_b_6  : Int32 :=
  (0 : Int32)
noncomputable def f_x2_isOf_b_11  : Int32 :=
  (0 : Int32)
noncomputable def f_x2_isOf_b_13  : Int32 :=
  (1 : Int32)
noncomputable def f_x2_isOf_b_8 (u0 : Int32) (u1 : Int32) (a22 : Nat → Int32) : Int32 :=
  let z_9 : Int32 := a22 u0.toNatClampNeg
  if z_9.toInt ≠ u1.toInt then f_x2_isOf_b_11 else f_x2_isOf_b_13
noncomputable def F_x2_isOf (u0 : Int32) (u1 : Int32) (a22 : Nat → Int32) : Int32 :=
  let v_1 : Int32 := (F_x2_isNumber u0)
  if v_1.toInt = 0 then f_x2_isOf_b_6 else (f_x2_isOf_b_8 u0 u1 a22)
noncomputable def f_x2_subject_b_6  : Int32 :=
  (-1 : Int32)
noncomputable def f_x2_subject_b_8 (u0 : Int32) (a23 : Nat → Int32) : Int32 :=
  let z_9 : Int32 := a23 u0.toNatClampNeg
  z_9
noncomputable def F_x2_subject (u0 : Int32) (a23 : Nat → Int32) : Int32 :=
  let v_1 : Int32 := (F_x2_isNumber u0)
  if v_1.toInt = 0 then f_x2_subject_b_6 else (f_x2_subject_b_8 u0 a23)
noncomputable def f_x6_lastInForce_b_11  : Int32 :=
  (-1 : Int32)
noncomputable def f_x6_lastInForce_b_31 (x_8 : Int32) (self_J_7 : Int32 → Int32) : Int32 :=
  let z_32 : Int32 := x_8 + Int32.ofInt (-1)
  self_J_7 z_32
noncomputable def f_x6_lastInForce_b_44 (x_28 : Int32) (self_J_27 : Int32 → Int32) : Int32 :=
  let z_45 : Int32 := x_28 + Int32.ofInt (-1)
  self_J_27 z_45
noncomputable def f_x6_lastInForce_b_52 (x_28 : Int32) (self_J_27 : Int32 → Int32) : Int32 :=
  let z_53 : Int32 := x_28 + Int32.ofInt (-1)
  self_J_27 z_53
noncomputable def f_x6_lastInForce_b_54 (v_34 : Int32) : Int32 :=
  v_34
noncomputable def f_x6_lastInForce_b_46 (u1 : Int32) (a23 : Nat → Int32) (x_28 : Int32) (self_J_27 : Int32 → Int32) (v_34 : Int32) : Int32 :=
  let v_47 : Int32 := (F_x2_subject v_34 a23)
  if v_47.toInt ≠ u1.toInt then (f_x6_lastInForce_b_52 x_28 self_J_27) else (f_x6_lastInForce_b_54 v_34)
noncomputable def f_x6_lastInForce_b_33 (u0 : Int32) (u1 : Int32) (a22 : Nat → Int32) (a23 : Nat → Int32) (x_8 : Int32) (x_28 : Int32) (self_J_27 : Int32 → Int32) : Int32 :=
  let v_34 : Int32 := (F_x2_clauseOf x_8 x_28)
  let v_38 : Int32 := (F_x2_isOf v_34 u0 a22)
  if v_38.toInt = 0 then (f_x6_lastInForce_b_44 x_28 self_J_27) else (f_x6_lastInForce_b_46 u1 a23 x_28 self_J_27 v_34)
noncomputable def f_x6_lastInForce_J_27 (u0 : Int32) (u1 : Int32) (a22 : Nat → Int32) (a23 : Nat → Int32) (x_8 : Int32) (self_J_7 : Int32 → Int32) (x_28 : Int32) (self_J_27 : Int32 → Int32) : Int32 :=
  if x_28.toInt < 0 then (f_x6_lastInForce_b_31 x_8 self_J_7) else (f_x6_lastInForce_b_33 u0 u1 a22 a23 x_8 x_28 self_J_27)
noncomputable def f_x6_lastInForce_j27 (u0 : Int32) (u1 : Int32) (a22 : Nat → Int32) (a23 : Nat → Int32) (x_8 : Int32) (self_J_7 : Int32 → Int32) (n : Nat) : Int32 → Int32 :=
  Nat.rec (motive := fun _ => Int32 → Int32) (fun _ => 0) (fun _ sq_ x_28 => f_x6_lastInForce_J_27 u0 u1 a22 a23 x_8 self_J_7 x_28 sq_) n
noncomputable def f_x6_lastInForce_b_20 (u0 : Int32) (u1 : Int32) (i9 : Int32) (a21 : Nat → Int32) (a22 : Nat → Int32) (a23 : Nat → Int32) (x_8 : Int32) (self_J_7 : Int32 → Int32) : Int32 :=
  let v_21 : Int32 := (F_x2_clausesOf x_8 i9 a21)
  let z_26 : Int32 := v_21 - (1 : Int32)
  f_x6_lastInForce_j27 u0 u1 a22 a23 x_8 self_J_7 17 z_26
noncomputable def f_x6_lastInForce_b_56 (x_8 : Int32) (self_J_7 : Int32 → Int32) : Int32 :=
  let z_57 : Int32 := x_8 + Int32.ofInt (-1)
  self_J_7 z_57
noncomputable def f_x6_lastInForce_b_13 (u0 : Int32) (u1 : Int32) (i9 : Int32) (i20 : Int32) (a21 : Nat → Int32) (a22 : Nat → Int32) (a23 : Nat → Int32) (x_8 : Int32) (self_J_7 : Int32 → Int32) : Int32 :=
  let v_14 : Int32 := (F_x6_isInForce x_8 i20)
  if v_14.toInt ≠ 0 then (f_x6_lastInForce_b_20 u0 u1 i9 a21 a22 a23 x_8 self_J_7) else (f_x6_lastInForce_b_56 x_8 self_J_7)
noncomputable def f_x6_lastInForce_J_7 (u0 : Int32) (u1 : Int32) (i9 : Int32) (i20 : Int32) (a21 : Nat → Int32) (a22 : Nat → Int32) (a23 : Nat → Int32) (x_8 : Int32) (self_J_7 : Int32 → Int32) : Int32 :=
  if x_8.toInt < 0 then f_x6_lastInForce_b_11 else (f_x6_lastInForce_b_13 u0 u1 i9 i20 a21 a22 a23 x_8 self_J_7)
noncomputable def f_x6_lastInForce_j7 (u0 : Int32) (u1 : Int32) (i9 : Int32) (i20 : Int32) (a21 : Nat → Int32) (a22 : Nat → Int32) (a23 : Nat → Int32) (n : Nat) : Int32 → Int32 :=
  Nat.rec (motive := fun _ => Int32 → Int32) (fun _ => 0) (fun _ sq_ x_8 => f_x6_lastInForce_J_7 u0 u1 i9 i20 a21 a22 a23 x_8 sq_) n
noncomputable def F_x6_lastInForce (u0 : Int32) (u1 : Int32) (i9 : Int32) (i20 : Int32) (a21 : Nat → Int32) (a22 : Nat → Int32) (a23 : Nat → Int32) : Int32 :=
  let v_1 : Int32 := (F_x2_size i9)
  let z_6 : Int32 := v_1 - (1 : Int32)
  f_x6_lastInForce_j7 u0 u1 i9 i20 a21 a22 a23 21 z_6
noncomputable def f_x2_value_b_6  : Int32 :=
  (-1 : Int32)
noncomputable def f_x2_value_b_8 (u0 : Int32) (a25 : Nat → Int32) : Int32 :=
  let z_9 : Int32 := a25 u0.toNatClampNeg
  z_9
noncomputable def F_x2_value (u0 : Int32) (a25 : Nat → Int32) : Int32 :=
  let v_1 : Int32 := (F_x2_isNumber u0)
  if v_1.toInt = 0 then f_x2_value_b_6 else (f_x2_value_b_8 u0 a25)
noncomputable def f_x9_rowOf_b_7  : Nat × (Nat → Int32) :=
  (0, z0)
noncomputable def f_x9_rowOf_b_22  : Nat × (Nat → Int32) :=
  (0, z0)
noncomputable def f_x9_rowOf_b_23 (r9n : Nat → Nat) (r9c : Nat → Nat → Int32) (z_16 : Int32) : Nat × (Nat → Int32) :=
  let n_18 : Nat := r9n z_16.toNatClampNeg - 1
  (n_18, (r9c z_16.toNatClampNeg))
noncomputable def f_x9_rowOf_b_14 (u0 : Int32) (u1 : Int32) (r9n : Nat → Nat) (r9c : Nat → Nat → Int32) : Nat × (Nat → Int32) :=
  let z_15 : Int32 := u0 * (3 : Int32)
  let z_16 : Int32 := z_15 + u1
  if r9n z_16.toNatClampNeg = 0 then f_x9_rowOf_b_22 else (f_x9_rowOf_b_23 r9n r9c z_16)
noncomputable def f_x9_rowOf_b_24  : Nat × (Nat → Int32) :=
  (0, z0)
noncomputable def f_x9_rowOf_b_8 (u0 : Int32) (u1 : Int32) (r9n : Nat → Nat) (r9c : Nat → Nat → Int32) : Nat × (Nat → Int32) :=
  let v_9 : Int32 := (F_x11_isCopy u1)
  if v_9.toInt ≠ 0 then (f_x9_rowOf_b_14 u0 u1 r9n r9c) else f_x9_rowOf_b_24
noncomputable def F_x9_rowOf (u0 : Int32) (u1 : Int32) (i3 : Int32) (r9n : Nat → Nat) (r9c : Nat → Nat → Int32) : Nat × (Nat → Int32) :=
  let v_1 : Int32 := (F_x9_has u0 i3)
  if v_1.toInt = 0 then f_x9_rowOf_b_7 else (f_x9_rowOf_b_8 u0 u1 r9n r9c)
noncomputable def f_x6_findCopy_b_18 (i21_15 : Int32) (i22_16 : Int32) : Int32 × Int32 :=
  (i21_15, i22_16)
noncomputable def f_x6_findCopy_b_21 (i21_15 : Int32) (i22_16 : Int32) : Int32 × Int32 :=
  (i21_15, i22_16)
noncomputable def f_x6_findCopy_b_39 (x_13 : Int32) (i21_15 : Int32) (self_J_12 : Int32 → Int32 → Int32 → Int32 × Int32) (z_37 : Int32) : Int32 × Int32 :=
  let z_40 : Int32 := x_13 + Int32.ofInt (-2)
  self_J_12 z_40 i21_15 z_37
noncomputable def f_x6_findCopy_b_41 (x_13 : Int32) (self_J_12 : Int32 → Int32 → Int32 → Int32 × Int32) (z_24 : Int32) (z_37 : Int32) : Int32 × Int32 :=
  let z_42 : Int32 := x_13 + Int32.ofInt (-2)
  self_J_12 z_42 z_24 z_37
noncomputable def f_x6_findCopy_b_22 (i3 : Int32) (i17 : Int32) (r9n : Nat → Nat) (r9c : Nat → Nat → Int32) (v_8 : Int32) (x_13 : Int32) (i21_15 : Int32) (self_J_12 : Int32 → Int32 → Int32 → Int32 × Int32) : Int32 × Int32 :=
  let z_23 : Int32 := v_8 >>> (x_13 &&& 31)
  let z_24 : Int32 := z_23 &&& (3 : Int32)
  let n_30 : Nat := (F_x9_rowOf i17 z_24 i3 r9n r9c).1
  let z_37 : Int32 := Int32.ofNat n_30
  if z_37.toInt ≤ 0 then (f_x6_findCopy_b_39 x_13 i21_15 self_J_12 z_37) else (f_x6_findCopy_b_41 x_13 self_J_12 z_24 z_37)
noncomputable def f_x6_findCopy_b_19 (i3 : Int32) (i17 : Int32) (r9n : Nat → Nat) (r9c : Nat → Nat → Int32) (v_8 : Int32) (x_13 : Int32) (i21_15 : Int32) (i22_16 : Int32) (self_J_12 : Int32 → Int32 → Int32 → Int32 × Int32) : Int32 × Int32 :=
  if i21_15.toInt ≠ (-1) then (f_x6_findCopy_b_21 i21_15 i22_16) else (f_x6_findCopy_b_22 i3 i17 r9n r9c v_8 x_13 i21_15 self_J_12)
noncomputable def f_x6_findCopy_J_12 (i3 : Int32) (i17 : Int32) (r9n : Nat → Nat) (r9c : Nat → Nat → Int32) (v_8 : Int32) (x_13 : Int32) (i21_15 : Int32) (i22_16 : Int32) (self_J_12 : Int32 → Int32 → Int32 → Int32 × Int32) : Int32 × Int32 :=
  if x_13.toInt < 0 then (f_x6_findCopy_b_18 i21_15 i22_16) else (f_x6_findCopy_b_19 i3 i17 r9n r9c v_8 x_13 i21_15 i22_16 self_J_12)
