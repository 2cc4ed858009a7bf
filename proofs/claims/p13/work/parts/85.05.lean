noncomputable def f_x3_readClause_b_143 (i13 : Int32) (i16 : Int32) (a22 : Nat → Int32) (a23 : Nat → Int32) (a24 : Nat → Int32) (a25 : Nat → Int32) (a26 : Nat → Int32) : Int32 × Int32 × Int32 × Int32 × Int32 × (Nat → Int32) × (Nat → Int32) × (Nat → Int32) × (Nat → Int32) × (Nat → Int32) :=
  let v_144 : Int32 := (F_x3_fail (4 : Int32) i13).1
  let i14_147 : Int32 := (F_x3_fail (4 : Int32) i13).2.1
  let i15_148 : Int32 := (F_x3_fail (4 : Int32) i13).2.2
  (v_144, i13, i14_147, i15_148, i16, a22, a23, a24, a25, a26)
noncomputable def f_x3_readClause_J_5 (u0 : Int32) (i9 : Int32) (i12 : Int32) (i13 : Int32) (i14 : Int32) (i15 : Int32) (i16 : Int32) (a1 : Nat → Int32) (a22 : Nat → Int32) (a23 : Nat → Int32) (a24 : Nat → Int32) (a25 : Nat → Int32) (a26 : Nat → Int32) (v_1 : Int32) : Int32 × Int32 × Int32 × Int32 × Int32 × (Nat → Int32) × (Nat → Int32) × (Nat → Int32) × (Nat → Int32) × (Nat → Int32) :=
  if u0.toInt < 16 then (f_x3_readClause_b_7 u0 i9 i12 i13 i14 i15 a1 a22 a23 a24 a25 a26 v_1) else (f_x3_readClause_b_143 i13 i16 a22 a23 a24 a25 a26)
noncomputable def f_x3_readClause_j5 (u0 : Int32) (i9 : Int32) (i12 : Int32) (i13 : Int32) (i14 : Int32) (i15 : Int32) (i16 : Int32) (a1 : Nat → Int32) (a22 : Nat → Int32) (a23 : Nat → Int32) (a24 : Nat → Int32) (a25 : Nat → Int32) (a26 : Nat → Int32) (v_1 : Int32) : Int32 × Int32 × Int32 × Int32 × Int32 × (Nat → Int32) × (Nat → Int32) × (Nat → Int32) × (Nat → Int32) × (Nat → Int32) := f_x3_readClause_J_5 u0 i9 i12 i13 i14 i15 i16 a1 a22 a23 a24 a25 a26 v_1
noncomputable def f_x3_readClause_b_155 (u0 : Int32) (i9 : Int32) (i12 : Int32) (i13 : Int32) (i14 : Int32) (i15 : Int32) (i16 : Int32) (a1 : Nat → Int32) (a22 : Nat → Int32) (a23 : Nat → Int32) (a24 : Nat → Int32) (a25 : Nat → Int32) (a26 : Nat → Int32) (v_1 : Int32) : Int32 × Int32 × Int32 × Int32 × Int32 × (Nat → Int32) × (Nat → Int32) × (Nat → Int32) × (Nat → Int32) × (Nat → Int32) :=
  f_x3_readClause_j5 u0 i9 i12 i13 i14 i15 i16 a1 a22 a23 a24 a25 a26 v_1
noncomputable def f_x3_readClause_b_158 (u0 : Int32) (i9 : Int32) (i12 : Int32) (i13 : Int32) (i14 : Int32) (i15 : Int32) (i16 : Int32) (a1 : Nat → Int32) (a22 : Nat → Int32) (a23 : Nat → Int32) (a24 : Nat → Int32) (a25 : Nat → Int32) (a26 : Nat → Int32) (v_1 : Int32) : Int32 × Int32 × Int32 × Int32 × Int32 × (Nat → Int32) × (Nat → Int32) × (Nat → Int32) × (Nat → Int32) × (Nat → Int32) :=
  f_x3_readClause_j5 u0 i9 i12 i13 i14 i15 i16 a1 a22 a23 a24 a25 a26 v_1
noncomputable def f_x3_readClause_b_161 (u0 : Int32) (i9 : Int32) (i12 : Int32) (i13 : Int32) (i14 : Int32) (i15 : Int32) (i16 : Int32) (a1 : Nat → Int32) (a22 : Nat → Int32) (a23 : Nat → Int32) (a24 : Nat → Int32) (a25 : Nat → Int32) (a26 : Nat → Int32) (v_1 : Int32) : Int32 × Int32 × Int32 × Int32 × Int32 × (Nat → Int32) × (Nat → Int32) × (Nat → Int32) × (Nat → Int32) × (Nat → Int32) :=
  f_x3_readClause_j5 u0 i9 i12 i13 i14 i15 i16 a1 a22 a23 a24 a25 a26 v_1
noncomputable def f_x3_readClause_b_164 (u0 : Int32) (i9 : Int32) (i12 : Int32) (i13 : Int32) (i14 : Int32) (i15 : Int32) (i16 : Int32) (a1 : Nat → Int32) (a22 : Nat → Int32) (a23 : Nat → Int32) (a24 : Nat → Int32) (a25 : Nat → Int32) (a26 : Nat → Int32) (v_1 : Int32) : Int32 × Int32 × Int32 × Int32 × Int32 × (Nat → Int32) × (Nat → Int32) × (Nat → Int32) × (Nat → Int32) × (Nat → Int32) :=
  f_x3_readClause_j5 u0 i9 i12 i13 i14 i15 i16 a1 a22 a23 a24 a25 a26 v_1
noncomputable def f_x3_readClause_b_167 (u0 : Int32) (i9 : Int32) (i12 : Int32) (i13 : Int32) (i14 : Int32) (i15 : Int32) (i16 : Int32) (a1 : Nat → Int32) (a22 : Nat → Int32) (a23 : Nat → Int32) (a24 : Nat → Int32) (a25 : Nat → Int32) (a26 : Nat → Int32) (v_1 : Int32) : Int32 × Int32 × Int32 × Int32 × Int32 × (Nat → Int32) × (Nat → Int32) × (Nat → Int32) × (Nat → Int32) × (Nat → Int32) :=
  f_x3_readClause_j5 u0 i9 i12 i13 i14 i15 i16 a1 a22 a23 a24 a25 a26 v_1
noncomputable def f_x3_readClause_b_168 (i13 : Int32) (i16 : Int32) (a22 : Nat → Int32) (a23 : Nat → Int32) (a24 : Nat → Int32) (a25 : Nat → Int32) (a26 : Nat → Int32) : Int32 × Int32 × Int32 × Int32 × Int32 × (Nat → Int32) × (Nat → Int32) × (Nat → Int32) × (Nat → Int32) × (Nat → Int32) :=
  let v_169 : Int32 := (F_x3_fail (1 : Int32) i13).1
  let i14_172 : Int32 := (F_x3_fail (1 : Int32) i13).2.1
  let i15_173 : Int32 := (F_x3_fail (1 : Int32) i13).2.2
  (v_169, i13, i14_172, i15_173, i16, a22, a23, a24, a25, a26)
noncomputable def f_x3_readClause_b_165 (u0 : Int32) (i9 : Int32) (i12 : Int32) (i13 : Int32) (i14 : Int32) (i15 : Int32) (i16 : Int32) (a1 : Nat → Int32) (a22 : Nat → Int32) (a23 : Nat → Int32) (a24 : Nat → Int32) (a25 : Nat → Int32) (a26 : Nat → Int32) (v_1 : Int32) : Int32 × Int32 × Int32 × Int32 × Int32 × (Nat → Int32) × (Nat → Int32) × (Nat → Int32) × (Nat → Int32) × (Nat → Int32) :=
  if v_1.toInt = 111 then (f_x3_readClause_b_167 u0 i9 i12 i13 i14 i15 i16 a1 a22 a23 a24 a25 a26 v_1) else (f_x3_readClause_b_168 i13 i16 a22 a23 a24 a25 a26)
noncomputable def f_x3_readClause_b_162 (u0 : Int32) (i9 : Int32) (i12 : Int32) (i13 : Int32) (i14 : Int32) (i15 : Int32) (i16 : Int32) (a1 : Nat → Int32) (a22 : Nat → Int32) (a23 : Nat → Int32) (a24 : Nat → Int32) (a25 : Nat → Int32) (a26 : Nat → Int32) (v_1 : Int32) : Int32 × Int32 × Int32 × Int32 × Int32 × (Nat → Int32) × (Nat → Int32) × (Nat → Int32) × (Nat → Int32) × (Nat → Int32) :=
  if v_1.toInt = 118 then (f_x3_readClause_b_164 u0 i9 i12 i13 i14 i15 i16 a1 a22 a23 a24 a25 a26 v_1) else (f_x3_readClause_b_165 u0 i9 i12 i13 i14 i15 i16 a1 a22 a23 a24 a25 a26 v_1)
noncomputable def f_x3_readClause_b_159 (u0 : Int32) (i9 : Int32) (i12 : Int32) (i13 : Int32) (i14 : Int32) (i15 : Int32) (i16 : Int32) (a1 : Nat → Int32) (a22 : Nat → Int32) (a23 : Nat → Int32) (a24 : Nat → Int32) (a25 : Nat → Int32) (a26 : Nat → Int32) (v_1 : Int32) : Int32 × Int32 × Int32 × Int32 × Int32 × (Nat → Int32) × (Nat → Int32) × (Nat → Int32) × (Nat → Int32) × (Nat → Int32) :=
  if v_1.toInt = 107 then (f_x3_readClause_b_161 u0 i9 i12 i13 i14 i15 i16 a1 a22 a23 a24 a25 a26 v_1) else (f_x3_readClause_b_162 u0 i9 i12 i13 i14 i15 i16 a1 a22 a23 a24 a25 a26 v_1)
noncomputable def f_x3_readClause_b_156 (u0 : Int32) (i9 : Int32) (i12 : Int32) (i13 : Int32) (i14 : Int32) (i15 : Int32) (i16 : Int32) (a1 : Nat → Int32) (a22 : Nat → Int32) (a23 : Nat → Int32) (a24 : Nat → Int32) (a25 : Nat → Int32) (a26 : Nat → Int32) (v_1 : Int32) : Int32 × Int32 × Int32 × Int32 × Int32 × (Nat → Int32) × (Nat → Int32) × (Nat → Int32) × (Nat → Int32) × (Nat → Int32) :=
  if v_1.toInt = 115 then (f_x3_readClause_b_158 u0 i9 i12 i13 i14 i15 i16 a1 a22 a23 a24 a25 a26 v_1) else (f_x3_readClause_b_159 u0 i9 i12 i13 i14 i15 i16 a1 a22 a23 a24 a25 a26 v_1)
noncomputable def F_x3_readClause (u0 : Int32) (i9 : Int32) (i12 : Int32) (i13 : Int32) (i14 : Int32) (i15 : Int32) (i16 : Int32) (a1 : Nat → Int32) (a22 : Nat → Int32) (a23 : Nat → Int32) (a24 : Nat → Int32) (a25 : Nat → Int32) (a26 : Nat → Int32) : Int32 × Int32 × Int32 × Int32 × Int32 × (Nat → Int32) × (Nat → Int32) × (Nat → Int32) × (Nat → Int32) × (Nat → Int32) :=
  let v_1 : Int32 := (F_x3_sign i12 i13 a1)
  if v_1.toInt = 119 then (f_x3_readClause_b_155 u0 i9 i12 i13 i14 i15 i16 a1 a22 a23 a24 a25 a26 v_1) else (f_x3_readClause_b_156 u0 i9 i12 i13 i14 i15 i16 a1 a22 a23 a24 a25 a26 v_1)
noncomputable def f_x3_read_b_19 (u1 : Int32) (i13_6 : Int32) (i14_7 : Int32) (i15_8 : Int32) (i16_9 : Int32) (a22_10 : Nat → Int32) (a23_11 : Nat → Int32) (a24_12 : Nat → Int32) (a25_13 : Nat → Int32) (a26_14 : Nat → Int32) : Int32 × Int32 × Int32 × Int32 × Int32 × Int32 × (Nat → Int32) × (Nat → Int32) × (Nat → Int32) × (Nat → Int32) × (Nat → Int32) :=
  let z_20 : Int32 := (-1000 : Int32) * i14_7
  let z_21 : Int32 := z_20 - i15_8
  (z_21, u1, i13_6, i14_7, i15_8, i16_9, a22_10, a23_11, a24_12, a25_13, a26_14)
noncomputable def f_x3_read_b_23 (u1 : Int32) (i13_6 : Int32) (i14_7 : Int32) (i15_8 : Int32) (i16_9 : Int32) (a22_10 : Nat → Int32) (a23_11 : Nat → Int32) (a24_12 : Nat → Int32) (a25_13 : Nat → Int32) (a26_14 : Nat → Int32) : Int32 × Int32 × Int32 × Int32 × Int32 × Int32 × (Nat → Int32) × (Nat → Int32) × (Nat → Int32) × (Nat → Int32) × (Nat → Int32) :=
  ((0 : Int32), u1, i13_6, i14_7, i15_8, i16_9, a22_10, a23_11, a24_12, a25_13, a26_14)
noncomputable def f_x3_read_b_17 (u1 : Int32) (i13_6 : Int32) (i14_7 : Int32) (i15_8 : Int32) (i16_9 : Int32) (a22_10 : Nat → Int32) (a23_11 : Nat → Int32) (a24_12 : Nat → Int32) (a25_13 : Nat → Int32) (a26_14 : Nat → Int32) : Int32 × Int32 × Int32 × Int32 × Int32 × Int32 × (Nat → Int32) × (Nat → Int32) × (Nat → Int32) × (Nat → Int32) × (Nat → Int32) :=
  if i14_7.toInt ≠ 0 then (f_x3_read_b_19 u1 i13_6 i14_7 i15_8 i16_9 a22_10 a23_11 a24_12 a25_13 a26_14) else (f_x3_read_b_23 u1 i13_6 i14_7 i15_8 i16_9 a22_10 a23_11 a24_12 a25_13 a26_14)
noncomputable def f_x3_read_b_29 (u1 : Int32) (i13_6 : Int32) (i14_7 : Int32) (i15_8 : Int32) (i16_9 : Int32) (a22_10 : Nat → Int32) (a23_11 : Nat → Int32) (a24_12 : Nat → Int32) (a25_13 : Nat → Int32) (a26_14 : Nat → Int32) : Int32 × Int32 × Int32 × Int32 × Int32 × Int32 × (Nat → Int32) × (Nat → Int32) × (Nat → Int32) × (Nat → Int32) × (Nat → Int32) :=
  let z_30 : Int32 := (-1000 : Int32) * i14_7
  let z_31 : Int32 := z_30 - i15_8
  (z_31, u1, i13_6, i14_7, i15_8, i16_9, a22_10, a23_11, a24_12, a25_13, a26_14)
noncomputable def f_x3_read_b_33 (u1 : Int32) (i13_6 : Int32) (i14_7 : Int32) (i15_8 : Int32) (i16_9 : Int32) (a22_10 : Nat → Int32) (a23_11 : Nat → Int32) (a24_12 : Nat → Int32) (a25_13 : Nat → Int32) (a26_14 : Nat → Int32) : Int32 × Int32 × Int32 × Int32 × Int32 × Int32 × (Nat → Int32) × (Nat → Int32) × (Nat → Int32) × (Nat → Int32) × (Nat → Int32) :=
  ((0 : Int32), u1, i13_6, i14_7, i15_8, i16_9, a22_10, a23_11, a24_12, a25_13, a26_14)
noncomputable def f_x3_read_b_27 (u1 : Int32) (i13_6 : Int32) (i14_7 : Int32) (i15_8 : Int32) (i16_9 : Int32) (a22_10 : Nat → Int32) (a23_11 : Nat → Int32) (a24_12 : Nat → Int32) (a25_13 : Nat → Int32) (a26_14 : Nat → Int32) : Int32 × Int32 × Int32 × Int32 × Int32 × Int32 × (Nat → Int32) × (Nat → Int32) × (Nat → Int32) × (Nat → Int32) × (Nat → Int32) :=
  if i14_7.toInt ≠ 0 then (f_x3_read_b_29 u1 i13_6 i14_7 i15_8 i16_9 a22_10 a23_11 a24_12 a25_13 a26_14) else (f_x3_read_b_33 u1 i13_6 i14_7 i15_8 i16_9 a22_10 a23_11 a24_12 a25_13 a26_14)
noncomputable def f_x3_read_b_61 (x_4 : Int32) (self_J_1 : Int32 → Int32 → Int32 → Int32 → Int32 → Int32 → (Nat → Int32) → (Nat → Int32) → (Nat → Int32) → (Nat → Int32) → (Nat → Int32) → Int32 × Int32 × Int32 × Int32 × Int32 × Int32 × (Nat → Int32) × (Nat → Int32) × (Nat → Int32) × (Nat → Int32) × (Nat → Int32)) (i13_39 : Int32) (i14_40 : Int32) (i15_41 : Int32) (i16_42 : Int32) (a22_43 : Nat → Int32) (a23_44 : Nat → Int32) (a24_45 : Nat → Int32) (a25_46 : Nat → Int32) (a26_47 : Nat → Int32) : Int32 × Int32 × Int32 × Int32 × Int32 × Int32 × (Nat → Int32) × (Nat → Int32) × (Nat → Int32) × (Nat → Int32) × (Nat → Int32) :=
  let z_62 : Int32 := x_4 + Int32.ofInt 1
  self_J_1 ((0 : Int32)) z_62 i13_39 i14_40 i15_41 i16_42 a22_43 a23_44 a24_45 a25_46 a26_47
noncomputable def f_x3_read_b_65 (x_4 : Int32) (self_J_1 : Int32 → Int32 → Int32 → Int32 → Int32 → Int32 → (Nat → Int32) → (Nat → Int32) → (Nat → Int32) → (Nat → Int32) → (Nat → Int32) → Int32 × Int32 × Int32 × Int32 × Int32 × Int32 × (Nat → Int32) × (Nat → Int32) × (Nat → Int32) × (Nat → Int32) × (Nat → Int32)) (i13_39 : Int32) (i14_40 : Int32) (i15_41 : Int32) (i16_42 : Int32) (a22_43 : Nat → Int32) (a23_44 : Nat → Int32) (a24_45 : Nat → Int32) (a25_46 : Nat → Int32) (a26_47 : Nat → Int32) : Int32 × Int32 × Int32 × Int32 × Int32 × Int32 × (Nat → Int32) × (Nat → Int32) × (Nat → Int32) × (Nat → Int32) × (Nat → Int32) :=
  let z_66 : Int32 := x_4 + Int32.ofInt 1
  self_J_1 ((0 : Int32)) z_66 i13_39 i14_40 i15_41 i16_42 a22_43 a23_44 a24_45 a25_46 a26_47
noncomputable def f_x3_read_b_80 (x_4 : Int32) (self_J_1 : Int32 → Int32 → Int32 → Int32 → Int32 → Int32 → (Nat → Int32) → (Nat → Int32) → (Nat → Int32) → (Nat → Int32) → (Nat → Int32) → Int32 × Int32 × Int32 × Int32 × Int32 × Int32 × (Nat → Int32) × (Nat → Int32) × (Nat → Int32) × (Nat → Int32) × (Nat → Int32)) (i16_42 : Int32) (a22_43 : Nat → Int32) (a23_44 : Nat → Int32) (a24_45 : Nat → Int32) (a25_46 : Nat → Int32) (a26_47 : Nat → Int32) (i13_71 : Int32) (i14_72 : Int32) (i15_73 : Int32) : Int32 × Int32 × Int32 × Int32 × Int32 × Int32 × (Nat → Int32) × (Nat → Int32) × (Nat → Int32) × (Nat → Int32) × (Nat → Int32) :=
  let z_81 : Int32 := x_4 + Int32.ofInt 1
  self_J_1 ((0 : Int32)) z_81 i13_71 i14_72 i15_73 i16_42 a22_43 a23_44 a24_45 a25_46 a26_47
noncomputable def f_x3_read_b_82 (x_4 : Int32) (self_J_1 : Int32 → Int32 → Int32 → Int32 → Int32 → Int32 → (Nat → Int32) → (Nat → Int32) → (Nat → Int32) → (Nat → Int32) → (Nat → Int32) → Int32 × Int32 × Int32 × Int32 × Int32 × Int32 × (Nat → Int32) × (Nat → Int32) × (Nat → Int32) × (Nat → Int32) × (Nat → Int32)) (i16_42 : Int32) (a22_43 : Nat → Int32) (a23_44 : Nat → Int32) (a24_45 : Nat → Int32) (a25_46 : Nat → Int32) (a26_47 : Nat → Int32) (i13_71 : Int32) (i14_72 : Int32) (i15_73 : Int32) : Int32 × Int32 × Int32 × Int32 × Int32 × Int32 × (Nat → Int32) × (Nat → Int32) × (Nat → Int32) × (Nat → Int32) × (Nat → Int32) :=
  let z_83 : Int32 := x_4 + Int32.ofInt 1
  self_J_1 ((1 : Int32)) z_83 i13_71 i14_72 i15_73 i16_42 a22_43 a23_44 a24_45 a25_46 a26_47
noncomputable def f_x3_read_b_67 (u1 : Int32) (a1 : Nat → Int32) (x_4 : Int32) (self_J_1 : Int32 → Int32 → Int32 → Int32 → Int32 → Int32 → (Nat → Int32) → (Nat → Int32) → (Nat → Int32) → (Nat → Int32) → (Nat → Int32) → Int32 × Int32 × Int32 × Int32 × Int32 × Int32 × (Nat → Int32) × (Nat → Int32) × (Nat → Int32) × (Nat → Int32) × (Nat → Int32)) (i13_39 : Int32) (i14_40 : Int32) (i15_41 : Int32) (i16_42 : Int32) (a22_43 : Nat → Int32) (a23_44 : Nat → Int32) (a24_45 : Nat → Int32) (a25_46 : Nat → Int32) (a26_47 : Nat → Int32) : Int32 × Int32 × Int32 × Int32 × Int32 × Int32 × (Nat → Int32) × (Nat → Int32) × (Nat → Int32) × (Nat → Int32) × (Nat → Int32) :=
  let v_68 : Int32 := (F_x3_pass (59 : Int32) u1 i13_39 i14_40 i15_41 a1).1
  let i13_71 : Int32 := (F_x3_pass (59 : Int32) u1 i13_39 i14_40 i15_41 a1).2.1
  let i14_72 : Int32 := (F_x3_pass (59 : Int32) u1 i13_39 i14_40 i15_41 a1).2.2.1
  let i15_73 : Int32 := (F_x3_pass (59 : Int32) u1 i13_39 i14_40 i15_41 a1).2.2.2
  if v_68.toInt = 0 then (f_x3_read_b_80 x_4 self_J_1 i16_42 a22_43 a23_44 a24_45 a25_46 a26_47 i13_71 i14_72 i15_73) else (f_x3_read_b_82 x_4 self_J_1 i16_42 a22_43 a23_44 a24_45 a25_46 a26_47 i13_71 i14_72 i15_73)
noncomputable def f_x3_read_b_63 (u1 : Int32) (a1 : Nat → Int32) (x_4 : Int32) (self_J_1 : Int32 → Int32 → Int32 → Int32 → Int32 → Int32 → (Nat → Int32) → (Nat → Int32) → (Nat → Int32) → (Nat → Int32) → (Nat → Int32) → Int32 × Int32 × Int32 × Int32 × Int32 × Int32 × (Nat → Int32) × (Nat → Int32) × (Nat → Int32) × (Nat → Int32) × (Nat → Int32)) (i13_39 : Int32) (i14_40 : Int32) (i15_41 : Int32) (i16_42 : Int32) (a22_43 : Nat → Int32) (a23_44 : Nat → Int32) (a24_45 : Nat → Int32) (a25_46 : Nat → Int32) (a26_47 : Nat → Int32) : Int32 × Int32 × Int32 × Int32 × Int32 × Int32 × (Nat → Int32) × (Nat → Int32) × (Nat → Int32) × (Nat → Int32) × (Nat → Int32) :=
  if i13_39.toInt ≥ u1.toInt then (f_x3_read_b_65 x_4 self_J_1 i13_39 i14_40 i15_41 i16_42 a22_43 a23_44 a24_45 a25_46 a26_47) else (f_x3_read_b_67 u1 a1 x_4 self_J_1 i13_39 i14_40 i15_41 i16_42 a22_43 a23_44 a24_45 a25_46 a26_47)
noncomputable def f_x3_read_b_35 (u1 : Int32) (i9 : Int32) (a1 : Nat → Int32) (x_4 : Int32) (i13_6 : Int32) (i14_7 : Int32) (i15_8 : Int32) (i16_9 : Int32) (a22_10 : Nat → Int32) (a23_11 : Nat → Int32) (a24_12 : Nat → Int32) (a25_13 : Nat → Int32) (a26_14 : Nat → Int32) (self_J_1 : Int32 → Int32 → Int32 → Int32 → Int32 → Int32 → (Nat → Int32) → (Nat → Int32) → (Nat → Int32) → (Nat → Int32) → (Nat → Int32) → Int32 × Int32 × Int32 × Int32 × Int32 × Int32 × (Nat → Int32) × (Nat → Int32) × (Nat → Int32) × (Nat → Int32) × (Nat → Int32)) : Int32 × Int32 × Int32 × Int32 × Int32 × Int32 × (Nat → Int32) × (Nat → Int32) × (Nat → Int32) × (Nat → Int32) × (Nat → Int32) :=
  let v_36 : Int32 := (F_x3_readClause x_4 i9 u1 i13_6 i14_7 i15_8 i16_9 a1 a22_10 a23_11 a24_12 a25_13 a26_14).1
  let i13_39 : Int32 := (F_x3_readClause x_4 i9 u1 i13_6 i14_7 i15_8 i16_9 a1 a22_10 a23_11 a24_12 a25_13 a26_14).2.1
  let i14_40 : Int32 := (F_x3_readClause x_4 i9 u1 i13_6 i14_7 i15_8 i16_9 a1 a22_10 a23_11 a24_12 a25_13 a26_14).2.2.1
  let i15_41 : Int32 := (F_x3_readClause x_4 i9 u1 i13_6 i14_7 i15_8 i16_9 a1 a22_10 a23_11 a24_12 a25_13 a26_14).2.2.2.1
  let i16_42 : Int32 := (F_x3_readClause x_4 i9 u1 i13_6 i14_7 i15_8 i16_9 a1 a22_10 a23_11 a24_12 a25_13 a26_14).2.2.2.2.1
  let a22_43 : Nat → Int32 := (F_x3_readClause x_4 i9 u1 i13_6 i14_7 i15_8 i16_9 a1 a22_10 a23_11 a24_12 a25_13 a26_14).2.2.2.2.2.1
  let a23_44 : Nat → Int32 := (F_x3_readClause x_4 i9 u1 i13_6 i14_7 i15_8 i16_9 a1 a22_10 a23_11 a24_12 a25_13 a26_14).2.2.2.2.2.2.1
  let a24_45 : Nat → Int32 := (F_x3_readClause x_4 i9 u1 i13_6 i14_7 i15_8 i16_9 a1 a22_10 a23_11 a24_12 a25_13 a26_14).2.2.2.2.2.2.2.1
  let a25_46 : Nat → Int32 := (F_x3_readClause x_4 i9 u1 i13_6 i14_7 i15_8 i16_9 a1 a22_10 a23_11 a24_12 a25_13 a26_14).2.2.2.2.2.2.2.2.1
  let a26_47 : Nat → Int32 := (F_x3_readClause x_4 i9 u1 i13_6 i14_7 i15_8 i16_9 a1 a22_10 a23_11 a24_12 a25_13 a26_14).2.2.2.2.2.2.2.2.2
  if v_36.toInt = 0 then (f_x3_read_b_61 x_4 self_J_1 i13_39 i14_40 i15_41 i16_42 a22_43 a23_44 a24_45 a25_46 a26_47) else (f_x3_read_b_63 u1 a1 x_4 self_J_1 i13_39 i14_40 i15_41 i16_42 a22_43 a23_44 a24_45 a25_46 a26_47)
noncomputable def f_x3_read_b_25 (u1 : Int32) (i9 : Int32) (a1 : Nat → Int32) (x_4 : Int32) (i13_6 : Int32) (i14_7 : Int32) (i15_8 : Int32) (i16_9 : Int32) (a22_10 : Nat → Int32) (a23_11 : Nat → Int32) (a24_12 : Nat → Int32) (a25_13 : Nat → Int32) (a26_14 : Nat → Int32) (self_J_1 : Int32 → Int32 → Int32 → Int32 → Int32 → Int32 → (Nat → Int32) → (Nat → Int32) → (Nat → Int32) → (Nat → Int32) → (Nat → Int32) → Int32 × Int32 × Int32 × Int32 × Int32 × Int32 × (Nat → Int32) × (Nat → Int32) × (Nat → Int32) × (Nat → Int32) × (Nat → Int32)) : Int32 × Int32 × Int32 × Int32 × Int32 × Int32 × (Nat → Int32) × (Nat → Int32) × (Nat → Int32) × (Nat → Int32) × (Nat → Int32) :=
  if x_4.toInt > 16 then (f_x3_read_b_27 u1 i13_6 i14_7 i15_8 i16_9 a22_10 a23_11 a24_12 a25_13 a26_14) else (f_x3_read_b_35 u1 i9 a1 x_4 i13_6 i14_7 i15_8 i16_9 a22_10 a23_11 a24_12 a25_13 a26_14 self_J_1)
noncomputable def f_x3_read_J_1 (u1 : Int32) (i9 : Int32) (a1 : Nat → Int32) (x_2 : Int32) (x_4 : Int32) (i13_6 : Int32) (i14_7 : Int32) (i15_8 : Int32) (i16_9 : Int32) (a22_10 : Nat → Int32) (a23_11 : Nat → Int32) (a24_12 : Nat → Int32) (a25_13 : Nat → Int32) (a26_14 : Nat → Int32) (self_J_1 : Int32 → Int32 → Int32 → Int32 → Int32 → Int32 → (Nat → Int32) → (Nat → Int32) → (Nat → Int32) → (Nat → Int32) → (Nat → Int32) → Int32 × Int32 × Int32 × Int32 × Int32 × Int32 × (Nat → Int32) × (Nat → Int32) × (Nat → Int32) × (Nat → Int32) × (Nat → Int32)) : Int32 × Int32 × Int32 × Int32 × Int32 × Int32 × (Nat → Int32) × (Nat → Int32) × (Nat → Int32) × (Nat → Int32) × (Nat → Int32) :=
  if x_2.toInt = 0 then (f_x3_read_b_17 u1 i13_6 i14_7 i15_8 i16_9 a22_10 a23_11 a24_12 a25_13 a26_14) else (f_x3_read_b_25 u1 i9 a1 x_4 i13_6 i14_7 i15_8 i16_9 a22_10 a23_11 a24_12 a25_13 a26_14 self_J_1)
noncomputable def f_x3_read_j1 (u1 : Int32) (i9 : Int32) (a1 : Nat → Int32) (n : Nat) : Int32 → Int32 → Int32 → Int32 → Int32 → Int32 → (Nat → Int32) → (Nat → Int32) → (Nat → Int32) → (Nat → Int32) → (Nat → Int32) → Int32 × Int32 × Int32 × Int32 × Int32 × Int32 × (Nat → Int32) × (Nat → Int32) × (Nat → Int32) × (Nat → Int32) × (Nat → Int32) :=
  Nat.rec (motive := fun _ => Int32 → Int32 → Int32 → Int32 → Int32 → Int32 → (Nat → Int32) → (Nat → Int32) → (Nat → Int32) → (Nat → Int32) → (Nat → Int32) → Int32 × Int32 × Int32 × Int32 × Int32 × Int32 × (Nat → Int32) × (Nat → Int32) × (Nat → Int32) × (Nat → Int32) × (Nat → Int32)) (fun _ _ _ _ _ _ _ _ _ _ _ => (0, 0, 0, 0, 0, 0, (fun _ => 0), (fun _ => 0), (fun _ => 0), (fun _ => 0), (fun _ => 0))) (fun _ sq_ x_2 x_4 i13_6 i14_7 i15_8 i16_9 a22_10 a23_11 a24_12 a25_13 a26_14 => f_x3_read_J_1 u1 i9 a1 x_2 x_4 i13_6 i14_7 i15_8 i16_9 a22_10 a23_11 a24_12 a25_13 a26_14 sq_) n
noncomputable def F_x3_read (u1 : Int32) (i9 : Int32) (i15 : Int32) (a1 : Nat → Int32) (a22 : Nat → Int32) (a23 : Nat → Int32) (a24 : Nat → Int32) (a25 : Nat → Int32) (a26 : Nat → Int32) : Int32 × Int32 × Int32 × Int32 × Int32 × Int32 × (Nat → Int32) × (Nat → Int32) × (Nat → Int32) × (Nat → Int32) × (Nat → Int32) :=
  f_x3_read_j1 u1 i9 a1 18 ((1 : Int32)) ((0 : Int32)) ((0 : Int32)) ((0 : Int32)) i15 ((0 : Int32)) a22 a23 a24 a25 a26
noncomputable def f_x2_putDays_b_7 (a18 : Nat → Int32) (a19 : Nat → Int32) (a20 : Nat → Int32) : (Nat → Int32) × (Nat → Int32) × (Nat → Int32) :=
  (a18, a19, a20)
noncomputable def f_x2_putDays_b_8 (u0 : Int32) (u1 : Int32) (u2 : Int32) (i9 : Int32) (a18 : Nat → Int32) (a19 : Nat → Int32) (a20 : Nat → Int32) : (Nat → Int32) × (Nat → Int32) × (Nat → Int32) :=
  let a18_9 : Nat → Int32 := upd a18 i9.toNatClampNeg u0
  let a19_10 : Nat → Int32 := upd a19 i9.toNatClampNeg u1
  let a20_11 : Nat → Int32 := upd a20 i9.toNatClampNeg u2
  (a18_9, a19_10, a20_11)
noncomputable def F_x2_putDays (u0 : Int32) (u1 : Int32) (u2 : Int32) (i9 : Int32) (a18 : Nat → Int32) (a19 : Nat → Int32) (a20 : Nat → Int32) : (Nat → Int32) × (Nat → Int32) × (Nat → Int32) :=
  let v_1 : Int32 := (F_x2_isFull i9)
  if v_1.toInt ≠ 0 then (f_x2_putDays_b_7 a18 a19 a20) else (f_x2_putDays_b_8 u0 u1 u2 i9 a18 a19 a20)
noncomputable def F_x3_clausesRead (i16 : Int32) : Int32 :=
  i16
noncomputable def f_x2_enact_b_7 (i9 : Int32) (a21 : Nat → Int32) : Int32 × Int32 × (Nat → Int32) :=
  ((-1 : Int32), i9, a21)
noncomputable def f_x2_enact_b_21 (u2 : Int32) (i9 : Int32) (a21 : Nat → Int32) : Int32 × Int32 × (Nat → Int32) :=
  let a21_22 : Nat → Int32 := upd a21 i9.toNatClampNeg u2
  let z_23 : Int32 := i9 + (1 : Int32)
  let z_24 : Int32 := z_23 - (1 : Int32)
  (z_24, z_23, a21_22)
noncomputable def f_x2_enact_b_26 (x_18 : Int32) (self_J_17 : Int32 → Int32 × Int32 × (Nat → Int32)) : Int32 × Int32 × (Nat → Int32) :=
  let z_28 : Int32 := x_18 + Int32.ofInt 1
  self_J_17 z_28
noncomputable def f_x2_enact_J_17 (u1 : Int32) (u2 : Int32) (i9 : Int32) (a21 : Nat → Int32) (x_18 : Int32) (self_J_17 : Int32 → Int32 × Int32 × (Nat → Int32)) : Int32 × Int32 × (Nat → Int32) :=
  if x_18.toInt ≥ u1.toInt then (f_x2_enact_b_21 u2 i9 a21) else (f_x2_enact_b_26 x_18 self_J_17)
noncomputable def f_x2_enact_j17 (u1 : Int32) (u2 : Int32) (i9 : Int32) (a21 : Nat → Int32) (n : Nat) : Int32 → Int32 × Int32 × (Nat → Int32) :=
  Nat.rec (motive := fun _ => Int32 → Int32 × Int32 × (Nat → Int32)) (fun _ => (0, 0, (fun _ => 0))) (fun _ sq_ x_18 => f_x2_enact_J_17 u1 u2 i9 a21 x_18 sq_) n
noncomputable def f_x2_enact_b_13 (u1 : Int32) (u2 : Int32) (i9 : Int32) (a21 : Nat → Int32) : Int32 × Int32 × (Nat → Int32) :=
  f_x2_enact_j17 u1 u2 i9 a21 161 ((0 : Int32))
noncomputable def f_x2_enact_b_11 (u1 : Int32) (u2 : Int32) (i9 : Int32) (a21 : Nat → Int32) : Int32 × Int32 × (Nat → Int32) :=
  (f_x2_enact_b_13 u1 u2 i9 a21)
noncomputable def f_x2_enact_b_9 (u1 : Int32) (u2 : Int32) (i9 : Int32) (a21 : Nat → Int32) : Int32 × Int32 × (Nat → Int32) :=
  (f_x2_enact_b_11 u1 u2 i9 a21)
noncomputable def F_x2_enact (u1 : Int32) (u2 : Int32) (i9 : Int32) (a21 : Nat → Int32) : Int32 × Int32 × (Nat → Int32) :=
  let v_1 : Int32 := (F_x2_isFull i9)
  if v_1.toInt ≠ 0 then (f_x2_enact_b_7 i9 a21) else (f_x2_enact_b_9 u1 u2 i9 a21)
noncomputable def f_x11_rules_b_7 (i0 : Int32) (i9 : Int32) (i12 : Int32) (i13 : Int32) (i14 : Int32) (i15 : Int32) (i16 : Int32) (a18 : Nat → Int32) (a19 : Nat → Int32) (a20 : Nat → Int32) (a21 : Nat → Int32) (a22 : Nat → Int32) (a23 : Nat → Int32) (a24 : Nat → Int32) (a25 : Nat → Int32) (a26 : Nat → Int32) : Int32 × Int32 × Int32 × Int32 × Int32 × Int32 × Int32 × Int32 × (Nat → Int32) × (Nat → Int32) × (Nat → Int32) × (Nat → Int32) × (Nat → Int32) × (Nat → Int32) × (Nat → Int32) × (Nat → Int32) × (Nat → Int32) :=
  ((-1 : Int32), i0, i9, i12, i13, i14, i15, i16, a18, a19, a20, a21, a22, a23, a24, a25, a26)
noncomputable def f_x11_rules_b_15 (i0 : Int32) (i9 : Int32) (i12 : Int32) (i13 : Int32) (i14 : Int32) (i15 : Int32) (i16 : Int32) (a18 : Nat → Int32) (a19 : Nat → Int32) (a20 : Nat → Int32) (a21 : Nat → Int32) (a22 : Nat → Int32) (a23 : Nat → Int32) (a24 : Nat → Int32) (a25 : Nat → Int32) (a26 : Nat → Int32) : Int32 × Int32 × Int32 × Int32 × Int32 × Int32 × Int32 × Int32 × (Nat → Int32) × (Nat → Int32) × (Nat → Int32) × (Nat → Int32) × (Nat → Int32) × (Nat → Int32) × (Nat → Int32) × (Nat → Int32) × (Nat → Int32) :=
  ((-1 : Int32), i0, i9, i12, i13, i14, i15, i16, a18, a19, a20, a21, a22, a23, a24, a25, a26)
noncomputable def f_x11_rules_b_26 (i0 : Int32) (i9 : Int32) (i12 : Int32) (i13 : Int32) (i14 : Int32) (i15 : Int32) (i16 : Int32) (a18 : Nat → Int32) (a19 : Nat → Int32) (a20 : Nat → Int32) (a21 : Nat → Int32) (a22 : Nat → Int32) (a23 : Nat → Int32) (a24 : Nat → Int32) (a25 : Nat → Int32) (a26 : Nat → Int32) : Int32 × Int32 × Int32 × Int32 × Int32 × Int32 × Int32 × Int32 × (Nat → Int32) × (Nat → Int32) × (Nat → Int32) × (Nat → Int32) × (Nat → Int32) × (Nat → Int32) × (Nat → Int32) × (Nat → Int32) × (Nat → Int32) :=
  ((-1 : Int32), i0, i9, i12, i13, i14, i15, i16, a18, a19, a20, a21, a22, a23, a24, a25, a26)
noncomputable def f_x11_rules_b_63 (u0 : Int32) (u1 : Int32) (u2 : Int32) (u3 : Int32) (i9 : Int32) (a18 : Nat → Int32) (a19 : Nat → Int32) (a20 : Nat → Int32) (a21 : Nat → Int32) (i12_39 : Int32) (i13_40 : Int32) (i14_41 : Int32) (i15_42 : Int32) (i16_43 : Int32) (a22_44 : Nat → Int32) (a23_45 : Nat → Int32) (a24_46 : Nat → Int32) (a25_47 : Nat → Int32) (a26_48 : Nat → Int32) : Int32 × Int32 × Int32 × Int32 × Int32 × Int32 × Int32 × Int32 × (Nat → Int32) × (Nat → Int32) × (Nat → Int32) × (Nat → Int32) × (Nat → Int32) × (Nat → Int32) × (Nat → Int32) × (Nat → Int32) × (Nat → Int32) :=
  let a18_67 : Nat → Int32 := (F_x2_putDays u0 u1 u2 i9 a18 a19 a20).1
  let a19_68 : Nat → Int32 := (F_x2_putDays u0 u1 u2 i9 a18 a19 a20).2.1
  let a20_69 : Nat → Int32 := (F_x2_putDays u0 u1 u2 i9 a18 a19 a20).2.2
  let v_73 : Int32 := (F_x3_clausesRead i16_43)
  let v_78 : Int32 := (F_x2_enact u3 v_73 i9 a21).1
  let i9_81 : Int32 := (F_x2_enact u3 v_73 i9 a21).2.1
  let a21_82 : Nat → Int32 := (F_x2_enact u3 v_73 i9 a21).2.2
  (v_78, (0 : Int32), i9_81, i12_39, i13_40, i14_41, i15_42, i16_43, a18_67, a19_68, a20_69, a21_82, a22_44, a23_45, a24_46, a25_47, a26_48)
