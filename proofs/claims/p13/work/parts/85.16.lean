noncomputable def f_m12_readsRank_b_929 (p0 : Int32) (i10 : Int32) (i11 : Int32) (a1 : Nat → Int32) (a21 : Nat → Int32) (a22 : Nat → Int32) (a20_763 : Nat → Int32) (z_767 : Int32) : Int32 × Int32 × (Nat → Int32) × (Nat → Int32) × (Nat → Int32) :=
  (f_m12_readsRank_b_936 p0 i10 i11 a1 a21 a22 a20_763 z_767)
noncomputable def f_m12_readsRank_b_1089 (a21 : Nat → Int32) (a22 : Nat → Int32) (a20_763 : Nat → Int32) (z_767 : Int32) (i11_1078 : Int32) : Int32 × Int32 × (Nat → Int32) × (Nat → Int32) × (Nat → Int32) :=
  (z_767, i11_1078, a20_763, a21, a22)
noncomputable def f_m12_readsRank_b_1074 (i11 : Int32) (a21 : Nat → Int32) (a22 : Nat → Int32) (a20_763 : Nat → Int32) (z_767 : Int32) : Int32 × Int32 × (Nat → Int32) × (Nat → Int32) × (Nat → Int32) :=
  let i11_1078 : Int32 := (F_m12_fails (6 : Int32) z_767 i11)
  (f_m12_readsRank_b_1089 a21 a22 a20_763 z_767 i11_1078)
noncomputable def f_m12_readsRank_b_1067 (i11 : Int32) (a21 : Nat → Int32) (a22 : Nat → Int32) (a20_763 : Nat → Int32) (z_767 : Int32) : Int32 × Int32 × (Nat → Int32) × (Nat → Int32) × (Nat → Int32) :=
  (f_m12_readsRank_b_1074 i11 a21 a22 a20_763 z_767)
noncomputable def f_m12_readsRank_b_788 (p0 : Int32) (i10 : Int32) (i11 : Int32) (a1 : Nat → Int32) (a21 : Nat → Int32) (a22 : Nat → Int32) (a20_763 : Nat → Int32) (z_767 : Int32) (z_782 : Int32) : Int32 × Int32 × (Nat → Int32) × (Nat → Int32) × (Nat → Int32) :=
  if z_782.toInt = 0 then (f_m12_readsRank_b_791 p0 i10 i11 a1 a21 a22 a20_763 z_767) else if z_782.toInt = 1 then (f_m12_readsRank_b_929 p0 i10 i11 a1 a21 a22 a20_763 z_767) else (f_m12_readsRank_b_1067 i11 a21 a22 a20_763 z_767)
noncomputable def f_m12_readsRank_b_1105 (a21 : Nat → Int32) (a22 : Nat → Int32) (a20_763 : Nat → Int32) (z_767 : Int32) (i11_1094 : Int32) : Int32 × Int32 × (Nat → Int32) × (Nat → Int32) × (Nat → Int32) :=
  (z_767, i11_1094, a20_763, a21, a22)
noncomputable def f_m12_readsRank_b_1090 (i11 : Int32) (a21 : Nat → Int32) (a22 : Nat → Int32) (a20_763 : Nat → Int32) (z_767 : Int32) : Int32 × Int32 × (Nat → Int32) × (Nat → Int32) × (Nat → Int32) :=
  let i11_1094 : Int32 := (F_m12_fails (1 : Int32) z_767 i11)
  (f_m12_readsRank_b_1105 a21 a22 a20_763 z_767 i11_1094)
noncomputable def f_m12_readsRank_b_776 (p0 : Int32) (i10 : Int32) (i11 : Int32) (a1 : Nat → Int32) (a21 : Nat → Int32) (a22 : Nat → Int32) (a20_763 : Nat → Int32) (z_767 : Int32) : Int32 × Int32 × (Nat → Int32) × (Nat → Int32) × (Nat → Int32) :=
  let v_777 : Int32 := (F_m12_here z_767 i10 a1)
  let z_782 : Int32 := v_777 - (48 : Int32)
  let v_783 : Int32 := (F_m12_lies z_782 (0 : Int32) (2 : Int32))
  if v_783.toInt ≠ 0 then (f_m12_readsRank_b_788 p0 i10 i11 a1 a21 a22 a20_763 z_767 z_782) else (f_m12_readsRank_b_1090 i11 a21 a22 a20_763 z_767)
noncomputable def f_m12_readsRank_b_769 (p0 : Int32) (i10 : Int32) (i11 : Int32) (a1 : Nat → Int32) (a21 : Nat → Int32) (a22 : Nat → Int32) (a20_763 : Nat → Int32) (z_767 : Int32) : Int32 × Int32 × (Nat → Int32) × (Nat → Int32) × (Nat → Int32) :=
  (f_m12_readsRank_b_776 p0 i10 i11 a1 a21 a22 a20_763 z_767)
noncomputable def f_m12_readsRank_b_762 (p0 : Int32) (i9 : Int32) (i10 : Int32) (i11 : Int32) (a1 : Nat → Int32) (a20 : Nat → Int32) (a21 : Nat → Int32) (a22 : Nat → Int32) : Int32 × Int32 × (Nat → Int32) × (Nat → Int32) × (Nat → Int32) :=
  let a20_763 : Nat → Int32 := upd a20 p0.toNatClampNeg (2 : Int32)
  let z_767 : Int32 := i9 + (1 : Int32)
  (f_m12_readsRank_b_769 p0 i10 i11 a1 a21 a22 a20_763 z_767)
noncomputable def f_m12_readsRank_b_760 (p0 : Int32) (i9 : Int32) (i10 : Int32) (i11 : Int32) (a1 : Nat → Int32) (a20 : Nat → Int32) (a21 : Nat → Int32) (a22 : Nat → Int32) : Int32 × Int32 × (Nat → Int32) × (Nat → Int32) × (Nat → Int32) :=
  (f_m12_readsRank_b_762 p0 i9 i10 i11 a1 a20 a21 a22)
noncomputable def f_m12_readsRank_b_753 (p0 : Int32) (i9 : Int32) (i10 : Int32) (i11 : Int32) (a1 : Nat → Int32) (a20 : Nat → Int32) (a21 : Nat → Int32) (a22 : Nat → Int32) : Int32 × Int32 × (Nat → Int32) × (Nat → Int32) × (Nat → Int32) :=
  (f_m12_readsRank_b_760 p0 i9 i10 i11 a1 a20 a21 a22)
noncomputable def f_m12_readsRank_b_746 (p0 : Int32) (i9 : Int32) (i10 : Int32) (i11 : Int32) (a1 : Nat → Int32) (a20 : Nat → Int32) (a21 : Nat → Int32) (a22 : Nat → Int32) : Int32 × Int32 × (Nat → Int32) × (Nat → Int32) × (Nat → Int32) :=
  (f_m12_readsRank_b_753 p0 i9 i10 i11 a1 a20 a21 a22)
noncomputable def f_m12_readsRank_b_21 (p0 : Int32) (i9 : Int32) (i10 : Int32) (i11 : Int32) (a1 : Nat → Int32) (a20 : Nat → Int32) (a21 : Nat → Int32) (a22 : Nat → Int32) (z_15 : Int32) : Int32 × Int32 × (Nat → Int32) × (Nat → Int32) × (Nat → Int32) :=
  if z_15.toInt = 0 then (f_m12_readsRank_b_24 p0 i9 i10 i11 a1 a20 a21 a22) else if z_15.toInt = 1 then (f_m12_readsRank_b_385 p0 i9 i10 i11 a1 a20 a21 a22) else (f_m12_readsRank_b_746 p0 i9 i10 i11 a1 a20 a21 a22)
noncomputable def f_m12_readsRank_b_1121 (i9 : Int32) (a20 : Nat → Int32) (a21 : Nat → Int32) (a22 : Nat → Int32) (i11_1110 : Int32) : Int32 × Int32 × (Nat → Int32) × (Nat → Int32) × (Nat → Int32) :=
  (i9, i11_1110, a20, a21, a22)
noncomputable def f_m12_readsRank_b_1106 (i9 : Int32) (i11 : Int32) (a20 : Nat → Int32) (a21 : Nat → Int32) (a22 : Nat → Int32) : Int32 × Int32 × (Nat → Int32) × (Nat → Int32) × (Nat → Int32) :=
  let i11_1110 : Int32 := (F_m12_fails (1 : Int32) i9 i11)
  (f_m12_readsRank_b_1121 i9 a20 a21 a22 i11_1110)
noncomputable def f_m12_readsRank_b_9 (p0 : Int32) (i9 : Int32) (i10 : Int32) (i11 : Int32) (a1 : Nat → Int32) (a20 : Nat → Int32) (a21 : Nat → Int32) (a22 : Nat → Int32) : Int32 × Int32 × (Nat → Int32) × (Nat → Int32) × (Nat → Int32) :=
  let v_10 : Int32 := (F_m12_here i9 i10 a1)
  let z_15 : Int32 := v_10 - (48 : Int32)
  let v_16 : Int32 := (F_m12_lies z_15 (0 : Int32) (2 : Int32))
  if v_16.toInt ≠ 0 then (f_m12_readsRank_b_21 p0 i9 i10 i11 a1 a20 a21 a22 z_15) else (f_m12_readsRank_b_1106 i9 i11 a20 a21 a22)
noncomputable def f_m12_readsRank_b_2 (p0 : Int32) (i9 : Int32) (i10 : Int32) (i11 : Int32) (a1 : Nat → Int32) (a20 : Nat → Int32) (a21 : Nat → Int32) (a22 : Nat → Int32) : Int32 × Int32 × (Nat → Int32) × (Nat → Int32) × (Nat → Int32) :=
  (f_m12_readsRank_b_9 p0 i9 i10 i11 a1 a20 a21 a22)
noncomputable def F_m12_readsRank (p0 : Int32) (i9 : Int32) (i10 : Int32) (i11 : Int32) (a1 : Nat → Int32) (a20 : Nat → Int32) (a21 : Nat → Int32) (a22 : Nat → Int32) : Int32 × Int32 × (Nat → Int32) × (Nat → Int32) × (Nat → Int32) :=
  (f_m12_readsRank_b_2 p0 i9 i10 i11 a1 a20 a21 a22)
noncomputable def f_m12_clause_b_51 (i12 : Int32) (i14 : Int32) (i15 : Int32) (i16 : Int32) (i17 : Int32) (a27 : Nat → Int32) (a19_21 : Nat → Int32) (i9_31 : Int32) (i11_32 : Int32) (a20_33 : Nat → Int32) (a21_34 : Nat → Int32) (a22_35 : Nat → Int32) : Int32 × Int32 × Int32 × Int32 × Int32 × Int32 × Int32 × (Nat → Int32) × (Nat → Int32) × (Nat → Int32) × (Nat → Int32) × (Nat → Int32) :=
  let z_56 : Int32 := i12 + (1 : Int32)
  (i9_31, i11_32, z_56, i14, i15, i16, i17, a19_21, a20_33, a21_34, a22_35, a27)
noncomputable def f_m12_clause_b_66 (i12 : Int32) (i14 : Int32) (i15 : Int32) (i16 : Int32) (i17 : Int32) (a27 : Nat → Int32) (a19_21 : Nat → Int32) (i9_31 : Int32) (i11_32 : Int32) (a20_33 : Nat → Int32) (a21_34 : Nat → Int32) (a22_35 : Nat → Int32) : Int32 × Int32 × Int32 × Int32 × Int32 × Int32 × Int32 × (Nat → Int32) × (Nat → Int32) × (Nat → Int32) × (Nat → Int32) × (Nat → Int32) :=
  let z_71 : Int32 := i12 + (1 : Int32)
  (i9_31, i11_32, z_71, i14, i15, i16, i17, a19_21, a20_33, a21_34, a22_35, a27)
noncomputable def f_m12_clause_J_75 (i10 : Int32) (i12 : Int32) (i17 : Int32) (a1 : Nat → Int32) (a27 : Nat → Int32) (a19_21 : Nat → Int32) (i9_31 : Int32) (i11_32 : Int32) (a20_33 : Nat → Int32) (a21_34 : Nat → Int32) (a22_35 : Nat → Int32) : Int32 × Int32 × Int32 × Int32 × Int32 × Int32 × Int32 × (Nat → Int32) × (Nat → Int32) × (Nat → Int32) × (Nat → Int32) × (Nat → Int32) :=
  let i9_79 : Int32 := (F_m12_condition i9_31 i10 i11_32 i17 a1 a27).1
  let i11_80 : Int32 := (F_m12_condition i9_31 i10 i11_32 i17 a1 a27).2.1
  let i14_82 : Int32 := (F_m12_condition i9_31 i10 i11_32 i17 a1 a27).2.2.1
  let i15_83 : Int32 := (F_m12_condition i9_31 i10 i11_32 i17 a1 a27).2.2.2.1
  let i16_84 : Int32 := (F_m12_condition i9_31 i10 i11_32 i17 a1 a27).2.2.2.2.1
  let i17_85 : Int32 := (F_m12_condition i9_31 i10 i11_32 i17 a1 a27).2.2.2.2.2.1
  let a27_87 : Nat → Int32 := (F_m12_condition i9_31 i10 i11_32 i17 a1 a27).2.2.2.2.2.2
  let z_114 : Int32 := i12 + (1 : Int32)
  (i9_79, i11_80, z_114, i14_82, i15_83, i16_84, i17_85, a19_21, a20_33, a21_34, a22_35, a27_87)
noncomputable def f_m12_clause_j75 (i10 : Int32) (i12 : Int32) (i17 : Int32) (a1 : Nat → Int32) (a27 : Nat → Int32) (a19_21 : Nat → Int32) (i9_31 : Int32) (i11_32 : Int32) (a20_33 : Nat → Int32) (a21_34 : Nat → Int32) (a22_35 : Nat → Int32) : Int32 × Int32 × Int32 × Int32 × Int32 × Int32 × Int32 × (Nat → Int32) × (Nat → Int32) × (Nat → Int32) × (Nat → Int32) × (Nat → Int32) := f_m12_clause_J_75 i10 i12 i17 a1 a27 a19_21 i9_31 i11_32 a20_33 a21_34 a22_35
noncomputable def f_m12_clause_b_118 (i10 : Int32) (i12 : Int32) (i17 : Int32) (a1 : Nat → Int32) (a27 : Nat → Int32) (a19_21 : Nat → Int32) (i9_31 : Int32) (i11_32 : Int32) (a20_33 : Nat → Int32) (a21_34 : Nat → Int32) (a22_35 : Nat → Int32) : Int32 × Int32 × Int32 × Int32 × Int32 × Int32 × Int32 × (Nat → Int32) × (Nat → Int32) × (Nat → Int32) × (Nat → Int32) × (Nat → Int32) :=
  f_m12_clause_j75 i10 i12 i17 a1 a27 a19_21 i9_31 i11_32 a20_33 a21_34 a22_35
noncomputable def f_m12_clause_b_121 (i12 : Int32) (i14 : Int32) (i15 : Int32) (i16 : Int32) (i17 : Int32) (a27 : Nat → Int32) (a19_21 : Nat → Int32) (i9_31 : Int32) (i11_32 : Int32) (a20_33 : Nat → Int32) (a21_34 : Nat → Int32) (a22_35 : Nat → Int32) : Int32 × Int32 × Int32 × Int32 × Int32 × Int32 × Int32 × (Nat → Int32) × (Nat → Int32) × (Nat → Int32) × (Nat → Int32) × (Nat → Int32) :=
  let z_126 : Int32 := i12 + (1 : Int32)
  (i9_31, i11_32, z_126, i14, i15, i16, i17, a19_21, a20_33, a21_34, a22_35, a27)
noncomputable def f_m12_clause_b_129 (i10 : Int32) (i12 : Int32) (i17 : Int32) (a1 : Nat → Int32) (a27 : Nat → Int32) (a19_21 : Nat → Int32) (i9_31 : Int32) (i11_32 : Int32) (a20_33 : Nat → Int32) (a21_34 : Nat → Int32) (a22_35 : Nat → Int32) : Int32 × Int32 × Int32 × Int32 × Int32 × Int32 × Int32 × (Nat → Int32) × (Nat → Int32) × (Nat → Int32) × (Nat → Int32) × (Nat → Int32) :=
  f_m12_clause_j75 i10 i12 i17 a1 a27 a19_21 i9_31 i11_32 a20_33 a21_34 a22_35
noncomputable def f_m12_clause_b_119 (i10 : Int32) (i12 : Int32) (i14 : Int32) (i15 : Int32) (i16 : Int32) (i17 : Int32) (a1 : Nat → Int32) (a27 : Nat → Int32) (v_1 : Int32) (a19_21 : Nat → Int32) (i9_31 : Int32) (i11_32 : Int32) (a20_33 : Nat → Int32) (a21_34 : Nat → Int32) (a22_35 : Nat → Int32) : Int32 × Int32 × Int32 × Int32 × Int32 × Int32 × Int32 × (Nat → Int32) × (Nat → Int32) × (Nat → Int32) × (Nat → Int32) × (Nat → Int32) :=
  if v_1.toInt ≠ 115 then (f_m12_clause_b_121 i12 i14 i15 i16 i17 a27 a19_21 i9_31 i11_32 a20_33 a21_34 a22_35) else (f_m12_clause_b_129 i10 i12 i17 a1 a27 a19_21 i9_31 i11_32 a20_33 a21_34 a22_35)
noncomputable def f_m12_clause_b_74 (i10 : Int32) (i12 : Int32) (i14 : Int32) (i15 : Int32) (i16 : Int32) (i17 : Int32) (a1 : Nat → Int32) (a27 : Nat → Int32) (v_1 : Int32) (a19_21 : Nat → Int32) (i9_31 : Int32) (i11_32 : Int32) (a20_33 : Nat → Int32) (a21_34 : Nat → Int32) (a22_35 : Nat → Int32) : Int32 × Int32 × Int32 × Int32 × Int32 × Int32 × Int32 × (Nat → Int32) × (Nat → Int32) × (Nat → Int32) × (Nat → Int32) × (Nat → Int32) :=
  if v_1.toInt = 119 then (f_m12_clause_b_118 i10 i12 i17 a1 a27 a19_21 i9_31 i11_32 a20_33 a21_34 a22_35) else (f_m12_clause_b_119 i10 i12 i14 i15 i16 i17 a1 a27 v_1 a19_21 i9_31 i11_32 a20_33 a21_34 a22_35)
noncomputable def f_m12_clause_b_59 (i10 : Int32) (i12 : Int32) (i14 : Int32) (i15 : Int32) (i16 : Int32) (i17 : Int32) (a1 : Nat → Int32) (a27 : Nat → Int32) (v_1 : Int32) (a19_21 : Nat → Int32) (i9_31 : Int32) (i11_32 : Int32) (a20_33 : Nat → Int32) (a21_34 : Nat → Int32) (a22_35 : Nat → Int32) : Int32 × Int32 × Int32 × Int32 × Int32 × Int32 × Int32 × (Nat → Int32) × (Nat → Int32) × (Nat → Int32) × (Nat → Int32) × (Nat → Int32) :=
  let v_60 : Int32 := (F_m12_here i9_31 i10 a1)
  if v_60.toInt ≠ 40 then (f_m12_clause_b_66 i12 i14 i15 i16 i17 a27 a19_21 i9_31 i11_32 a20_33 a21_34 a22_35) else (f_m12_clause_b_74 i10 i12 i14 i15 i16 i17 a1 a27 v_1 a19_21 i9_31 i11_32 a20_33 a21_34 a22_35)
noncomputable def f_m12_clause_J_30 (i10 : Int32) (i12 : Int32) (i14 : Int32) (i15 : Int32) (i16 : Int32) (i17 : Int32) (a1 : Nat → Int32) (a27 : Nat → Int32) (v_1 : Int32) (a19_21 : Nat → Int32) (i9_31 : Int32) (i11_32 : Int32) (a20_33 : Nat → Int32) (a21_34 : Nat → Int32) (a22_35 : Nat → Int32) : Int32 × Int32 × Int32 × Int32 × Int32 × Int32 × Int32 × (Nat → Int32) × (Nat → Int32) × (Nat → Int32) × (Nat → Int32) × (Nat → Int32) :=
  let v_45 : Int32 := (F_m12_isGood i11_32)
  if v_45.toInt = 0 then (f_m12_clause_b_51 i12 i14 i15 i16 i17 a27 a19_21 i9_31 i11_32 a20_33 a21_34 a22_35) else (f_m12_clause_b_59 i10 i12 i14 i15 i16 i17 a1 a27 v_1 a19_21 i9_31 i11_32 a20_33 a21_34 a22_35)
noncomputable def f_m12_clause_j30 (i10 : Int32) (i12 : Int32) (i14 : Int32) (i15 : Int32) (i16 : Int32) (i17 : Int32) (a1 : Nat → Int32) (a27 : Nat → Int32) (v_1 : Int32) (a19_21 : Nat → Int32) (i9_31 : Int32) (i11_32 : Int32) (a20_33 : Nat → Int32) (a21_34 : Nat → Int32) (a22_35 : Nat → Int32) : Int32 × Int32 × Int32 × Int32 × Int32 × Int32 × Int32 × (Nat → Int32) × (Nat → Int32) × (Nat → Int32) × (Nat → Int32) × (Nat → Int32) := f_m12_clause_J_30 i10 i12 i14 i15 i16 i17 a1 a27 v_1 a19_21 i9_31 i11_32 a20_33 a21_34 a22_35
noncomputable def f_m12_clause_b_137 (i10 : Int32) (i12 : Int32) (i14 : Int32) (i15 : Int32) (i16 : Int32) (i17 : Int32) (a1 : Nat → Int32) (a20 : Nat → Int32) (a21 : Nat → Int32) (a22 : Nat → Int32) (a27 : Nat → Int32) (v_1 : Int32) (i11_7 : Int32) (a19_21 : Nat → Int32) (z_29 : Int32) : Int32 × Int32 × Int32 × Int32 × Int32 × Int32 × Int32 × (Nat → Int32) × (Nat → Int32) × (Nat → Int32) × (Nat → Int32) × (Nat → Int32) :=
  f_m12_clause_j30 i10 i12 i14 i15 i16 i17 a1 a27 v_1 a19_21 z_29 i11_7 a20 a21 a22
noncomputable def f_m12_clause_b_138 (i10 : Int32) (i12 : Int32) (i14 : Int32) (i15 : Int32) (i16 : Int32) (i17 : Int32) (a1 : Nat → Int32) (a20 : Nat → Int32) (a21 : Nat → Int32) (a22 : Nat → Int32) (a27 : Nat → Int32) (v_1 : Int32) (i11_7 : Int32) (z_20 : Int32) (a19_21 : Nat → Int32) (z_29 : Int32) : Int32 × Int32 × Int32 × Int32 × Int32 × Int32 × Int32 × (Nat → Int32) × (Nat → Int32) × (Nat → Int32) × (Nat → Int32) × (Nat → Int32) :=
  let v_139 : Int32 := (F_m12_readsNumber (99999 : Int32) z_29 i10 i11_7 a1).1
  let i9_142 : Int32 := (F_m12_readsNumber (99999 : Int32) z_29 i10 i11_7 a1).2.1
  let i11_143 : Int32 := (F_m12_readsNumber (99999 : Int32) z_29 i10 i11_7 a1).2.2
  let a20_153 : Nat → Int32 := upd a20 z_20.toNatClampNeg v_139
  f_m12_clause_j30 i10 i12 i14 i15 i16 i17 a1 a27 v_1 a19_21 i9_142 i11_143 a20_153 a21 a22
noncomputable def f_m12_clause_b_135 (i10 : Int32) (i12 : Int32) (i14 : Int32) (i15 : Int32) (i16 : Int32) (i17 : Int32) (a1 : Nat → Int32) (a20 : Nat → Int32) (a21 : Nat → Int32) (a22 : Nat → Int32) (a27 : Nat → Int32) (v_1 : Int32) (i11_7 : Int32) (z_20 : Int32) (a19_21 : Nat → Int32) (z_29 : Int32) : Int32 × Int32 × Int32 × Int32 × Int32 × Int32 × Int32 × (Nat → Int32) × (Nat → Int32) × (Nat → Int32) × (Nat → Int32) × (Nat → Int32) :=
  if v_1.toInt ≠ 111 then (f_m12_clause_b_137 i10 i12 i14 i15 i16 i17 a1 a20 a21 a22 a27 v_1 i11_7 a19_21 z_29) else (f_m12_clause_b_138 i10 i12 i14 i15 i16 i17 a1 a20 a21 a22 a27 v_1 i11_7 z_20 a19_21 z_29)
noncomputable def f_m12_clause_b_198 (i10 : Int32) (i12 : Int32) (i14 : Int32) (i15 : Int32) (i16 : Int32) (i17 : Int32) (a1 : Nat → Int32) (a21 : Nat → Int32) (a22 : Nat → Int32) (a27 : Nat → Int32) (v_1 : Int32) (a19_21 : Nat → Int32) (a20_174 : Nat → Int32) (i9_184 : Int32) (i11_185 : Int32) : Int32 × Int32 × Int32 × Int32 × Int32 × Int32 × Int32 × (Nat → Int32) × (Nat → Int32) × (Nat → Int32) × (Nat → Int32) × (Nat → Int32) :=
  f_m12_clause_j30 i10 i12 i14 i15 i16 i17 a1 a27 v_1 a19_21 i9_184 i11_185 a20_174 a21 a22
noncomputable def f_m12_clause_b_199 (i10 : Int32) (i12 : Int32) (i14 : Int32) (i15 : Int32) (i16 : Int32) (i17 : Int32) (a1 : Nat → Int32) (a21 : Nat → Int32) (a22 : Nat → Int32) (a27 : Nat → Int32) (v_1 : Int32) (z_20 : Int32) (a19_21 : Nat → Int32) (a20_174 : Nat → Int32) (i9_184 : Int32) (i11_185 : Int32) : Int32 × Int32 × Int32 × Int32 × Int32 × Int32 × Int32 × (Nat → Int32) × (Nat → Int32) × (Nat → Int32) × (Nat → Int32) × (Nat → Int32) :=
  let v_200 : Int32 := (F_m12_readsNumber (100 : Int32) i9_184 i10 i11_185 a1).1
  let i9_203 : Int32 := (F_m12_readsNumber (100 : Int32) i9_184 i10 i11_185 a1).2.1
  let i11_204 : Int32 := (F_m12_readsNumber (100 : Int32) i9_184 i10 i11_185 a1).2.2
  let a21_214 : Nat → Int32 := upd a21 z_20.toNatClampNeg v_200
  f_m12_clause_j30 i10 i12 i14 i15 i16 i17 a1 a27 v_1 a19_21 i9_203 i11_204 a20_174 a21_214 a22
noncomputable def f_m12_clause_J_183 (i10 : Int32) (i12 : Int32) (i14 : Int32) (i15 : Int32) (i16 : Int32) (i17 : Int32) (a1 : Nat → Int32) (a21 : Nat → Int32) (a22 : Nat → Int32) (a27 : Nat → Int32) (v_1 : Int32) (z_20 : Int32) (a19_21 : Nat → Int32) (a20_174 : Nat → Int32) (i9_184 : Int32) (i11_185 : Int32) : Int32 × Int32 × Int32 × Int32 × Int32 × Int32 × Int32 × (Nat → Int32) × (Nat → Int32) × (Nat → Int32) × (Nat → Int32) × (Nat → Int32) :=
  let v_192 : Int32 := (F_m12_isGood i11_185)
  if v_192.toInt = 0 then (f_m12_clause_b_198 i10 i12 i14 i15 i16 i17 a1 a21 a22 a27 v_1 a19_21 a20_174 i9_184 i11_185) else (f_m12_clause_b_199 i10 i12 i14 i15 i16 i17 a1 a21 a22 a27 v_1 z_20 a19_21 a20_174 i9_184 i11_185)
noncomputable def f_m12_clause_j183 (i10 : Int32) (i12 : Int32) (i14 : Int32) (i15 : Int32) (i16 : Int32) (i17 : Int32) (a1 : Nat → Int32) (a21 : Nat → Int32) (a22 : Nat → Int32) (a27 : Nat → Int32) (v_1 : Int32) (z_20 : Int32) (a19_21 : Nat → Int32) (a20_174 : Nat → Int32) (i9_184 : Int32) (i11_185 : Int32) : Int32 × Int32 × Int32 × Int32 × Int32 × Int32 × Int32 × (Nat → Int32) × (Nat → Int32) × (Nat → Int32) × (Nat → Int32) × (Nat → Int32) := f_m12_clause_J_183 i10 i12 i14 i15 i16 i17 a1 a21 a22 a27 v_1 z_20 a19_21 a20_174 i9_184 i11_185
noncomputable def f_m12_clause_b_218 (i10 : Int32) (i12 : Int32) (i14 : Int32) (i15 : Int32) (i16 : Int32) (i17 : Int32) (a1 : Nat → Int32) (a21 : Nat → Int32) (a22 : Nat → Int32) (a27 : Nat → Int32) (v_1 : Int32) (z_20 : Int32) (a19_21 : Nat → Int32) (i11_163 : Int32) (a20_174 : Nat → Int32) (z_177 : Int32) : Int32 × Int32 × Int32 × Int32 × Int32 × Int32 × Int32 × (Nat → Int32) × (Nat → Int32) × (Nat → Int32) × (Nat → Int32) × (Nat → Int32) :=
  f_m12_clause_j183 i10 i12 i14 i15 i16 i17 a1 a21 a22 a27 v_1 z_20 a19_21 a20_174 z_177 i11_163
noncomputable def f_m12_clause_b_219 (i10 : Int32) (i12 : Int32) (i14 : Int32) (i15 : Int32) (i16 : Int32) (i17 : Int32) (a1 : Nat → Int32) (a21 : Nat → Int32) (a22 : Nat → Int32) (a27 : Nat → Int32) (v_1 : Int32) (z_20 : Int32) (a19_21 : Nat → Int32) (i11_163 : Int32) (a20_174 : Nat → Int32) (z_177 : Int32) : Int32 × Int32 × Int32 × Int32 × Int32 × Int32 × Int32 × (Nat → Int32) × (Nat → Int32) × (Nat → Int32) × (Nat → Int32) × (Nat → Int32) :=
  let i9_223 : Int32 := (F_m12_must (46 : Int32) z_177 i10 i11_163 a1).1
  let i11_224 : Int32 := (F_m12_must (46 : Int32) z_177 i10 i11_163 a1).2
  f_m12_clause_j183 i10 i12 i14 i15 i16 i17 a1 a21 a22 a27 v_1 z_20 a19_21 a20_174 i9_223 i11_224
noncomputable def f_m12_clause_J_162 (i10 : Int32) (i12 : Int32) (i14 : Int32) (i15 : Int32) (i16 : Int32) (i17 : Int32) (a1 : Nat → Int32) (a20 : Nat → Int32) (a21 : Nat → Int32) (a22 : Nat → Int32) (a27 : Nat → Int32) (v_1 : Int32) (z_20 : Int32) (a19_21 : Nat → Int32) (z_29 : Int32) (i11_163 : Int32) : Int32 × Int32 × Int32 × Int32 × Int32 × Int32 × Int32 × (Nat → Int32) × (Nat → Int32) × (Nat → Int32) × (Nat → Int32) × (Nat → Int32) :=
  let v_168 : Int32 := (F_m12_here z_29 i10 a1)
  let z_173 : Int32 := v_168 - (48 : Int32)
  let a20_174 : Nat → Int32 := upd a20 z_20.toNatClampNeg z_173
  let z_177 : Int32 := z_29 + (1 : Int32)
  let v_178 : Int32 := (F_m12_isGood i11_163)
  if v_178.toInt = 0 then (f_m12_clause_b_218 i10 i12 i14 i15 i16 i17 a1 a21 a22 a27 v_1 z_20 a19_21 i11_163 a20_174 z_177) else (f_m12_clause_b_219 i10 i12 i14 i15 i16 i17 a1 a21 a22 a27 v_1 z_20 a19_21 i11_163 a20_174 z_177)
noncomputable def f_m12_clause_j162 (i10 : Int32) (i12 : Int32) (i14 : Int32) (i15 : Int32) (i16 : Int32) (i17 : Int32) (a1 : Nat → Int32) (a20 : Nat → Int32) (a21 : Nat → Int32) (a22 : Nat → Int32) (a27 : Nat → Int32) (v_1 : Int32) (z_20 : Int32) (a19_21 : Nat → Int32) (z_29 : Int32) (i11_163 : Int32) : Int32 × Int32 × Int32 × Int32 × Int32 × Int32 × Int32 × (Nat → Int32) × (Nat → Int32) × (Nat → Int32) × (Nat → Int32) × (Nat → Int32) := f_m12_clause_J_162 i10 i12 i14 i15 i16 i17 a1 a20 a21 a22 a27 v_1 z_20 a19_21 z_29 i11_163
noncomputable def f_m12_clause_b_233 (i10 : Int32) (i12 : Int32) (i14 : Int32) (i15 : Int32) (i16 : Int32) (i17 : Int32) (a1 : Nat → Int32) (a20 : Nat → Int32) (a21 : Nat → Int32) (a22 : Nat → Int32) (a27 : Nat → Int32) (v_1 : Int32) (i11_7 : Int32) (z_20 : Int32) (a19_21 : Nat → Int32) (z_29 : Int32) : Int32 × Int32 × Int32 × Int32 × Int32 × Int32 × Int32 × (Nat → Int32) × (Nat → Int32) × (Nat → Int32) × (Nat → Int32) × (Nat → Int32) :=
  f_m12_clause_j162 i10 i12 i14 i15 i16 i17 a1 a20 a21 a22 a27 v_1 z_20 a19_21 z_29 i11_7
noncomputable def f_m12_clause_b_241 (i10 : Int32) (i12 : Int32) (i14 : Int32) (i15 : Int32) (i16 : Int32) (i17 : Int32) (a1 : Nat → Int32) (a20 : Nat → Int32) (a21 : Nat → Int32) (a22 : Nat → Int32) (a27 : Nat → Int32) (v_1 : Int32) (i11_7 : Int32) (z_20 : Int32) (a19_21 : Nat → Int32) (z_29 : Int32) : Int32 × Int32 × Int32 × Int32 × Int32 × Int32 × Int32 × (Nat → Int32) × (Nat → Int32) × (Nat → Int32) × (Nat → Int32) × (Nat → Int32) :=
  f_m12_clause_j162 i10 i12 i14 i15 i16 i17 a1 a20 a21 a22 a27 v_1 z_20 a19_21 z_29 i11_7
noncomputable def f_m12_clause_b_242 (i10 : Int32) (i12 : Int32) (i14 : Int32) (i15 : Int32) (i16 : Int32) (i17 : Int32) (a1 : Nat → Int32) (a20 : Nat → Int32) (a21 : Nat → Int32) (a22 : Nat → Int32) (a27 : Nat → Int32) (v_1 : Int32) (i11_7 : Int32) (z_20 : Int32) (a19_21 : Nat → Int32) (z_29 : Int32) : Int32 × Int32 × Int32 × Int32 × Int32 × Int32 × Int32 × (Nat → Int32) × (Nat → Int32) × (Nat → Int32) × (Nat → Int32) × (Nat → Int32) :=
  let i11_246 : Int32 := (F_m12_fails (1 : Int32) z_29 i11_7)
  f_m12_clause_j162 i10 i12 i14 i15 i16 i17 a1 a20 a21 a22 a27 v_1 z_20 a19_21 z_29 i11_246
noncomputable def f_m12_clause_b_234 (i10 : Int32) (i12 : Int32) (i14 : Int32) (i15 : Int32) (i16 : Int32) (i17 : Int32) (a1 : Nat → Int32) (a20 : Nat → Int32) (a21 : Nat → Int32) (a22 : Nat → Int32) (a27 : Nat → Int32) (v_1 : Int32) (i11_7 : Int32) (z_20 : Int32) (a19_21 : Nat → Int32) (z_29 : Int32) : Int32 × Int32 × Int32 × Int32 × Int32 × Int32 × Int32 × (Nat → Int32) × (Nat → Int32) × (Nat → Int32) × (Nat → Int32) × (Nat → Int32) :=
  let v_235 : Int32 := (F_m12_here z_29 i10 a1)
  if v_235.toInt = 49 then (f_m12_clause_b_241 i10 i12 i14 i15 i16 i17 a1 a20 a21 a22 a27 v_1 i11_7 z_20 a19_21 z_29) else (f_m12_clause_b_242 i10 i12 i14 i15 i16 i17 a1 a20 a21 a22 a27 v_1 i11_7 z_20 a19_21 z_29)
noncomputable def f_m12_clause_b_156 (i10 : Int32) (i12 : Int32) (i14 : Int32) (i15 : Int32) (i16 : Int32) (i17 : Int32) (a1 : Nat → Int32) (a20 : Nat → Int32) (a21 : Nat → Int32) (a22 : Nat → Int32) (a27 : Nat → Int32) (v_1 : Int32) (i11_7 : Int32) (z_20 : Int32) (a19_21 : Nat → Int32) (z_29 : Int32) : Int32 × Int32 × Int32 × Int32 × Int32 × Int32 × Int32 × (Nat → Int32) × (Nat → Int32) × (Nat → Int32) × (Nat → Int32) × (Nat → Int32) :=
  let v_157 : Int32 := (F_m12_here z_29 i10 a1)
  if v_157.toInt = 48 then (f_m12_clause_b_233 i10 i12 i14 i15 i16 i17 a1 a20 a21 a22 a27 v_1 i11_7 z_20 a19_21 z_29) else (f_m12_clause_b_234 i10 i12 i14 i15 i16 i17 a1 a20 a21 a22 a27 v_1 i11_7 z_20 a19_21 z_29)
noncomputable def f_m12_clause_b_133 (i10 : Int32) (i12 : Int32) (i14 : Int32) (i15 : Int32) (i16 : Int32) (i17 : Int32) (a1 : Nat → Int32) (a20 : Nat → Int32) (a21 : Nat → Int32) (a22 : Nat → Int32) (a27 : Nat → Int32) (v_1 : Int32) (i11_7 : Int32) (z_20 : Int32) (a19_21 : Nat → Int32) (z_29 : Int32) : Int32 × Int32 × Int32 × Int32 × Int32 × Int32 × Int32 × (Nat → Int32) × (Nat → Int32) × (Nat → Int32) × (Nat → Int32) × (Nat → Int32) :=
  if v_1.toInt ≠ 118 then (f_m12_clause_b_135 i10 i12 i14 i15 i16 i17 a1 a20 a21 a22 a27 v_1 i11_7 z_20 a19_21 z_29) else (f_m12_clause_b_156 i10 i12 i14 i15 i16 i17 a1 a20 a21 a22 a27 v_1 i11_7 z_20 a19_21 z_29)
noncomputable def f_m12_clause_b_251 (i10 : Int32) (i12 : Int32) (i14 : Int32) (i15 : Int32) (i16 : Int32) (i17 : Int32) (a1 : Nat → Int32) (a20 : Nat → Int32) (a21 : Nat → Int32) (a22 : Nat → Int32) (a27 : Nat → Int32) (v_1 : Int32) (i11_7 : Int32) (z_20 : Int32) (a19_21 : Nat → Int32) (z_29 : Int32) : Int32 × Int32 × Int32 × Int32 × Int32 × Int32 × Int32 × (Nat → Int32) × (Nat → Int32) × (Nat → Int32) × (Nat → Int32) × (Nat → Int32) :=
  let i9_255 : Int32 := (F_m12_readsRank z_20 z_29 i10 i11_7 a1 a20 a21 a22).1
  let i11_256 : Int32 := (F_m12_readsRank z_20 z_29 i10 i11_7 a1 a20 a21 a22).2.1
  let a20_257 : Nat → Int32 := (F_m12_readsRank z_20 z_29 i10 i11_7 a1 a20 a21 a22).2.2.1
  let a21_258 : Nat → Int32 := (F_m12_readsRank z_20 z_29 i10 i11_7 a1 a20 a21 a22).2.2.2.1
  let a22_259 : Nat → Int32 := (F_m12_readsRank z_20 z_29 i10 i11_7 a1 a20 a21 a22).2.2.2.2
  f_m12_clause_j30 i10 i12 i14 i15 i16 i17 a1 a27 v_1 a19_21 i9_255 i11_256 a20_257 a21_258 a22_259
noncomputable def f_m12_clause_b_131 (i10 : Int32) (i12 : Int32) (i14 : Int32) (i15 : Int32) (i16 : Int32) (i17 : Int32) (a1 : Nat → Int32) (a20 : Nat → Int32) (a21 : Nat → Int32) (a22 : Nat → Int32) (a27 : Nat → Int32) (v_1 : Int32) (i11_7 : Int32) (z_20 : Int32) (a19_21 : Nat → Int32) (z_29 : Int32) : Int32 × Int32 × Int32 × Int32 × Int32 × Int32 × Int32 × (Nat → Int32) × (Nat → Int32) × (Nat → Int32) × (Nat → Int32) × (Nat → Int32) :=
  if v_1.toInt ≠ 107 then (f_m12_clause_b_133 i10 i12 i14 i15 i16 i17 a1 a20 a21 a22 a27 v_1 i11_7 z_20 a19_21 z_29) else (f_m12_clause_b_251 i10 i12 i14 i15 i16 i17 a1 a20 a21 a22 a27 v_1 i11_7 z_20 a19_21 z_29)
