noncomputable def f_x3_readSum_b_12 (u0 : Int32) (i12 : Int32) (a1 : Nat → Int32) (g0_readTerm : Int32 → Int32 → Int32 → Int32 → Int32 → (Nat → Int32) → Int32 × Int32 × Int32 × Int32) (v_1 : Int32) (i13_4 : Int32) (i14_5 : Int32) (i15_6 : Int32) : Int32 × Int32 × Int32 × Int32 :=
  f_x3_readSum_j13 u0 i12 a1 g0_readTerm 161 v_1 ((0 : Int32)) i13_4 i14_5 i15_6
noncomputable def B_x3_readSum (u0 : Int32) (i12 : Int32) (i13 : Int32) (i14 : Int32) (i15 : Int32) (a1 : Nat → Int32) (g0_readTerm : Int32 → Int32 → Int32 → Int32 → Int32 → (Nat → Int32) → Int32 × Int32 × Int32 × Int32) : Int32 × Int32 × Int32 × Int32 :=
  let v_1 : Int32 := (g0_readTerm u0 i12 i13 i14 i15 a1).1
  let i13_4 : Int32 := (g0_readTerm u0 i12 i13 i14 i15 a1).2.1
  let i14_5 : Int32 := (g0_readTerm u0 i12 i13 i14 i15 a1).2.2.1
  let i15_6 : Int32 := (g0_readTerm u0 i12 i13 i14 i15 a1).2.2.2
  (f_x3_readSum_b_12 u0 i12 a1 g0_readTerm v_1 i13_4 i14_5 i15_6)
noncomputable def f_x3_readPiece_b_22 (i13_12 : Int32) (i14_13 : Int32) (i15_14 : Int32) : Int32 × Int32 × Int32 × Int32 :=
  ((0 : Int32), i13_12, i14_13, i15_14)
noncomputable def f_x3_readPiece_b_37 (i13_28 : Int32) (i14_29 : Int32) (i15_30 : Int32) : Int32 × Int32 × Int32 × Int32 :=
  ((0 : Int32), i13_28, i14_29, i15_30)
noncomputable def f_x3_readPiece_b_53 (i13_43 : Int32) (i14_44 : Int32) (i15_45 : Int32) : Int32 × Int32 × Int32 × Int32 :=
  ((0 : Int32), i13_43, i14_44, i15_45)
noncomputable def f_x3_readPiece_b_55 (i13_43 : Int32) (i14_44 : Int32) (i15_45 : Int32) : Int32 × Int32 × Int32 × Int32 :=
  ((1 : Int32), i13_43, i14_44, i15_45)
noncomputable def f_x3_readPiece_b_51 (v_40 : Int32) (i13_43 : Int32) (i14_44 : Int32) (i15_45 : Int32) : Int32 × Int32 × Int32 × Int32 :=
  if v_40.toInt = 0 then (f_x3_readPiece_b_53 i13_43 i14_44 i15_45) else (f_x3_readPiece_b_55 i13_43 i14_44 i15_45)
noncomputable def f_x3_readPiece_b_39 (u0 : Int32) (i12 : Int32) (a1 : Nat → Int32) (g0_readSum : Int32 → Int32 → Int32 → Int32 → Int32 → (Nat → Int32) → Int32 × Int32 × Int32 × Int32) (i13_28 : Int32) (i14_29 : Int32) (i15_30 : Int32) : Int32 × Int32 × Int32 × Int32 :=
  let v_40 : Int32 := (g0_readSum u0 i12 i13_28 i14_29 i15_30 a1).1
  let i13_43 : Int32 := (g0_readSum u0 i12 i13_28 i14_29 i15_30 a1).2.1
  let i14_44 : Int32 := (g0_readSum u0 i12 i13_28 i14_29 i15_30 a1).2.2.1
  let i15_45 : Int32 := (g0_readSum u0 i12 i13_28 i14_29 i15_30 a1).2.2.2
  (f_x3_readPiece_b_51 v_40 i13_43 i14_44 i15_45)
noncomputable def f_x3_readPiece_b_24 (u0 : Int32) (i12 : Int32) (a1 : Nat → Int32) (g0_readSum : Int32 → Int32 → Int32 → Int32 → Int32 → (Nat → Int32) → Int32 × Int32 × Int32 × Int32) (i13_12 : Int32) (i14_13 : Int32) (i15_14 : Int32) : Int32 × Int32 × Int32 × Int32 :=
  let v_25 : Int32 := (F_x3_readComparison i12 i13_12 i14_13 i15_14 a1).1
  let i13_28 : Int32 := (F_x3_readComparison i12 i13_12 i14_13 i15_14 a1).2.1
  let i14_29 : Int32 := (F_x3_readComparison i12 i13_12 i14_13 i15_14 a1).2.2.1
  let i15_30 : Int32 := (F_x3_readComparison i12 i13_12 i14_13 i15_14 a1).2.2.2
  if v_25.toInt = 0 then (f_x3_readPiece_b_37 i13_28 i14_29 i15_30) else (f_x3_readPiece_b_39 u0 i12 a1 g0_readSum i13_28 i14_29 i15_30)
noncomputable def f_x3_readPiece_b_20 (u0 : Int32) (i12 : Int32) (a1 : Nat → Int32) (g0_readSum : Int32 → Int32 → Int32 → Int32 → Int32 → (Nat → Int32) → Int32 × Int32 × Int32 × Int32) (v_9 : Int32) (i13_12 : Int32) (i14_13 : Int32) (i15_14 : Int32) : Int32 × Int32 × Int32 × Int32 :=
  if v_9.toInt = 0 then (f_x3_readPiece_b_22 i13_12 i14_13 i15_14) else (f_x3_readPiece_b_24 u0 i12 a1 g0_readSum i13_12 i14_13 i15_14)
noncomputable def f_x3_readPiece_b_8 (u0 : Int32) (i12 : Int32) (i13 : Int32) (i14 : Int32) (i15 : Int32) (a1 : Nat → Int32) (g0_readSum : Int32 → Int32 → Int32 → Int32 → Int32 → (Nat → Int32) → Int32 × Int32 × Int32 × Int32) : Int32 × Int32 × Int32 × Int32 :=
  let v_9 : Int32 := (g0_readSum u0 i12 i13 i14 i15 a1).1
  let i13_12 : Int32 := (g0_readSum u0 i12 i13 i14 i15 a1).2.1
  let i14_13 : Int32 := (g0_readSum u0 i12 i13 i14 i15 a1).2.2.1
  let i15_14 : Int32 := (g0_readSum u0 i12 i13 i14 i15 a1).2.2.2
  (f_x3_readPiece_b_20 u0 i12 a1 g0_readSum v_9 i13_12 i14_13 i15_14)
noncomputable def f_x3_readPiece_b_70 (i13_61 : Int32) (i14_62 : Int32) (i15_63 : Int32) : Int32 × Int32 × Int32 × Int32 :=
  ((0 : Int32), i13_61, i14_62, i15_63)
noncomputable def f_x3_readPiece_b_87 (i13_77 : Int32) (i14_78 : Int32) (i15_79 : Int32) : Int32 × Int32 × Int32 × Int32 :=
  ((0 : Int32), i13_77, i14_78, i15_79)
noncomputable def f_x3_readPiece_b_102 (i13_93 : Int32) (i14_94 : Int32) (i15_95 : Int32) : Int32 × Int32 × Int32 × Int32 :=
  ((0 : Int32), i13_93, i14_94, i15_95)
noncomputable def f_x3_readPiece_b_104 (i13_93 : Int32) (i14_94 : Int32) (i15_95 : Int32) : Int32 × Int32 × Int32 × Int32 :=
  ((1 : Int32), i13_93, i14_94, i15_95)
noncomputable def f_x3_readPiece_b_89 (i12 : Int32) (a1 : Nat → Int32) (i13_77 : Int32) (i14_78 : Int32) (i15_79 : Int32) : Int32 × Int32 × Int32 × Int32 :=
  let v_90 : Int32 := (F_x3_pass (41 : Int32) i12 i13_77 i14_78 i15_79 a1).1
  let i13_93 : Int32 := (F_x3_pass (41 : Int32) i12 i13_77 i14_78 i15_79 a1).2.1
  let i14_94 : Int32 := (F_x3_pass (41 : Int32) i12 i13_77 i14_78 i15_79 a1).2.2.1
  let i15_95 : Int32 := (F_x3_pass (41 : Int32) i12 i13_77 i14_78 i15_79 a1).2.2.2
  if v_90.toInt = 0 then (f_x3_readPiece_b_102 i13_93 i14_94 i15_95) else (f_x3_readPiece_b_104 i13_93 i14_94 i15_95)
noncomputable def f_x3_readPiece_b_85 (i12 : Int32) (a1 : Nat → Int32) (v_74 : Int32) (i13_77 : Int32) (i14_78 : Int32) (i15_79 : Int32) : Int32 × Int32 × Int32 × Int32 :=
  if v_74.toInt = 0 then (f_x3_readPiece_b_87 i13_77 i14_78 i15_79) else (f_x3_readPiece_b_89 i12 a1 i13_77 i14_78 i15_79)
noncomputable def f_x3_readPiece_b_72 (u0 : Int32) (i12 : Int32) (a1 : Nat → Int32) (g1_readCondition : Int32 → Int32 → Int32 → Int32 → Int32 → (Nat → Int32) → Int32 × Int32 × Int32 × Int32) (i13_61 : Int32) (i14_62 : Int32) (i15_63 : Int32) : Int32 × Int32 × Int32 × Int32 :=
  let z_73 : Int32 := u0 + (1 : Int32)
  let v_74 : Int32 := (g1_readCondition z_73 i12 i13_61 i14_62 i15_63 a1).1
  let i13_77 : Int32 := (g1_readCondition z_73 i12 i13_61 i14_62 i15_63 a1).2.1
  let i14_78 : Int32 := (g1_readCondition z_73 i12 i13_61 i14_62 i15_63 a1).2.2.1
  let i15_79 : Int32 := (g1_readCondition z_73 i12 i13_61 i14_62 i15_63 a1).2.2.2
  (f_x3_readPiece_b_85 i12 a1 v_74 i13_77 i14_78 i15_79)
noncomputable def f_x3_readPiece_b_57 (u0 : Int32) (i12 : Int32) (i13 : Int32) (i14 : Int32) (i15 : Int32) (a1 : Nat → Int32) (g1_readCondition : Int32 → Int32 → Int32 → Int32 → Int32 → (Nat → Int32) → Int32 × Int32 × Int32 × Int32) : Int32 × Int32 × Int32 × Int32 :=
  let v_58 : Int32 := (F_x3_readOpening u0 i13 i14 i15).1
  let i13_61 : Int32 := (F_x3_readOpening u0 i13 i14 i15).2.1
  let i14_62 : Int32 := (F_x3_readOpening u0 i13 i14 i15).2.2.1
  let i15_63 : Int32 := (F_x3_readOpening u0 i13 i14 i15).2.2.2
  if v_58.toInt = 0 then (f_x3_readPiece_b_70 i13_61 i14_62 i15_63) else (f_x3_readPiece_b_72 u0 i12 a1 g1_readCondition i13_61 i14_62 i15_63)
noncomputable def f_x3_readPiece_b_6 (u0 : Int32) (i12 : Int32) (i13 : Int32) (i14 : Int32) (i15 : Int32) (a1 : Nat → Int32) (g0_readSum : Int32 → Int32 → Int32 → Int32 → Int32 → (Nat → Int32) → Int32 × Int32 × Int32 × Int32) (g1_readCondition : Int32 → Int32 → Int32 → Int32 → Int32 → (Nat → Int32) → Int32 × Int32 × Int32 × Int32) (v_1 : Int32) : Int32 × Int32 × Int32 × Int32 :=
  if v_1.toInt ≠ 40 then (f_x3_readPiece_b_8 u0 i12 i13 i14 i15 a1 g0_readSum) else (f_x3_readPiece_b_57 u0 i12 i13 i14 i15 a1 g1_readCondition)
noncomputable def f_x3_readPiece_b_119 (i13_110 : Int32) (i14_111 : Int32) (i15_112 : Int32) : Int32 × Int32 × Int32 × Int32 :=
  ((0 : Int32), i13_110, i14_111, i15_112)
noncomputable def f_x3_readPiece_b_136 (i13_126 : Int32) (i14_127 : Int32) (i15_128 : Int32) : Int32 × Int32 × Int32 × Int32 :=
  ((0 : Int32), i13_126, i14_127, i15_128)
noncomputable def f_x3_readPiece_b_138 (i13_126 : Int32) (i14_127 : Int32) (i15_128 : Int32) : Int32 × Int32 × Int32 × Int32 :=
  ((1 : Int32), i13_126, i14_127, i15_128)
noncomputable def f_x3_readPiece_b_134 (v_123 : Int32) (i13_126 : Int32) (i14_127 : Int32) (i15_128 : Int32) : Int32 × Int32 × Int32 × Int32 :=
  if v_123.toInt = 0 then (f_x3_readPiece_b_136 i13_126 i14_127 i15_128) else (f_x3_readPiece_b_138 i13_126 i14_127 i15_128)
noncomputable def f_x3_readPiece_b_121 (u0 : Int32) (i12 : Int32) (a1 : Nat → Int32) (g1_readPiece : Int32 → Int32 → Int32 → Int32 → Int32 → (Nat → Int32) → Int32 × Int32 × Int32 × Int32) (i13_110 : Int32) (i14_111 : Int32) (i15_112 : Int32) : Int32 × Int32 × Int32 × Int32 :=
  let z_122 : Int32 := u0 + (1 : Int32)
  let v_123 : Int32 := (g1_readPiece z_122 i12 i13_110 i14_111 i15_112 a1).1
  let i13_126 : Int32 := (g1_readPiece z_122 i12 i13_110 i14_111 i15_112 a1).2.1
  let i14_127 : Int32 := (g1_readPiece z_122 i12 i13_110 i14_111 i15_112 a1).2.2.1
  let i15_128 : Int32 := (g1_readPiece z_122 i12 i13_110 i14_111 i15_112 a1).2.2.2
  (f_x3_readPiece_b_134 v_123 i13_126 i14_127 i15_128)
noncomputable def f_x3_readPiece_b_106 (u0 : Int32) (i12 : Int32) (i13 : Int32) (i14 : Int32) (i15 : Int32) (a1 : Nat → Int32) (g1_readPiece : Int32 → Int32 → Int32 → Int32 → Int32 → (Nat → Int32) → Int32 × Int32 × Int32 × Int32) : Int32 × Int32 × Int32 × Int32 :=
  let v_107 : Int32 := (F_x3_readOpening u0 i13 i14 i15).1
  let i13_110 : Int32 := (F_x3_readOpening u0 i13 i14 i15).2.1
  let i14_111 : Int32 := (F_x3_readOpening u0 i13 i14 i15).2.2.1
  let i15_112 : Int32 := (F_x3_readOpening u0 i13 i14 i15).2.2.2
  if v_107.toInt = 0 then (f_x3_readPiece_b_119 i13_110 i14_111 i15_112) else (f_x3_readPiece_b_121 u0 i12 a1 g1_readPiece i13_110 i14_111 i15_112)
noncomputable def B_x3_readPiece (u0 : Int32) (i12 : Int32) (i13 : Int32) (i14 : Int32) (i15 : Int32) (a1 : Nat → Int32) (g0_readSum : Int32 → Int32 → Int32 → Int32 → Int32 → (Nat → Int32) → Int32 × Int32 × Int32 × Int32) (g1_readPiece : Int32 → Int32 → Int32 → Int32 → Int32 → (Nat → Int32) → Int32 × Int32 × Int32 × Int32) (g1_readCondition : Int32 → Int32 → Int32 → Int32 → Int32 → (Nat → Int32) → Int32 × Int32 × Int32 × Int32) : Int32 × Int32 × Int32 × Int32 :=
  let v_1 : Int32 := (F_x3_sign i12 i13 a1)
  if v_1.toInt ≠ 33 then (f_x3_readPiece_b_6 u0 i12 i13 i14 i15 a1 g0_readSum g1_readCondition v_1) else (f_x3_readPiece_b_106 u0 i12 i13 i14 i15 a1 g1_readPiece)
noncomputable def f_x3_readPart_b_22 (x_14 : Int32) (i13_18 : Int32) (i14_19 : Int32) (i15_20 : Int32) : Int32 × Int32 × Int32 × Int32 :=
  (x_14, i13_18, i14_19, i15_20)
noncomputable def f_x3_readPart_b_26 (x_14 : Int32) (i13_18 : Int32) (i14_19 : Int32) (i15_20 : Int32) : Int32 × Int32 × Int32 × Int32 :=
  (x_14, i13_18, i14_19, i15_20)
noncomputable def f_x3_readPart_b_34 (x_14 : Int32) (i13_18 : Int32) (i14_19 : Int32) (i15_20 : Int32) : Int32 × Int32 × Int32 × Int32 :=
  (x_14, i13_18, i14_19, i15_20)
noncomputable def f_x3_readPart_b_49 (x_16 : Int32) (self_J_13 : Int32 → Int32 → Int32 → Int32 → Int32 → Int32 × Int32 × Int32 × Int32) (v_38 : Int32) (i13_41 : Int32) (i14_42 : Int32) (i15_43 : Int32) : Int32 × Int32 × Int32 × Int32 :=
  let z_50 : Int32 := x_16 + Int32.ofInt 1
  self_J_13 v_38 z_50 i13_41 i14_42 i15_43
noncomputable def f_x3_readPart_b_36 (u0 : Int32) (i12 : Int32) (a1 : Nat → Int32) (g0_readPiece : Int32 → Int32 → Int32 → Int32 → Int32 → (Nat → Int32) → Int32 × Int32 × Int32 × Int32) (x_16 : Int32) (i13_18 : Int32) (i14_19 : Int32) (i15_20 : Int32) (self_J_13 : Int32 → Int32 → Int32 → Int32 → Int32 → Int32 × Int32 × Int32 × Int32) : Int32 × Int32 × Int32 × Int32 :=
  let z_37 : Int32 := i13_18 + (1 : Int32)
  let v_38 : Int32 := (g0_readPiece u0 i12 z_37 i14_19 i15_20 a1).1
  let i13_41 : Int32 := (g0_readPiece u0 i12 z_37 i14_19 i15_20 a1).2.1
  let i14_42 : Int32 := (g0_readPiece u0 i12 z_37 i14_19 i15_20 a1).2.2.1
  let i15_43 : Int32 := (g0_readPiece u0 i12 z_37 i14_19 i15_20 a1).2.2.2
  (f_x3_readPart_b_49 x_16 self_J_13 v_38 i13_41 i14_42 i15_43)
noncomputable def f_x3_readPart_b_28 (u0 : Int32) (i12 : Int32) (a1 : Nat → Int32) (g0_readPiece : Int32 → Int32 → Int32 → Int32 → Int32 → (Nat → Int32) → Int32 × Int32 × Int32 × Int32) (x_14 : Int32) (x_16 : Int32) (i13_18 : Int32) (i14_19 : Int32) (i15_20 : Int32) (self_J_13 : Int32 → Int32 → Int32 → Int32 → Int32 → Int32 × Int32 × Int32 × Int32) : Int32 × Int32 × Int32 × Int32 :=
  let v_29 : Int32 := (F_x3_sign i12 i13_18 a1)
  if v_29.toInt ≠ 38 then (f_x3_readPart_b_34 x_14 i13_18 i14_19 i15_20) else (f_x3_readPart_b_36 u0 i12 a1 g0_readPiece x_16 i13_18 i14_19 i15_20 self_J_13)
noncomputable def f_x3_readPart_b_24 (u0 : Int32) (i12 : Int32) (a1 : Nat → Int32) (g0_readPiece : Int32 → Int32 → Int32 → Int32 → Int32 → (Nat → Int32) → Int32 × Int32 × Int32 × Int32) (x_14 : Int32) (x_16 : Int32) (i13_18 : Int32) (i14_19 : Int32) (i15_20 : Int32) (self_J_13 : Int32 → Int32 → Int32 → Int32 → Int32 → Int32 × Int32 × Int32 × Int32) : Int32 × Int32 × Int32 × Int32 :=
  if x_16.toInt ≥ 160 then (f_x3_readPart_b_26 x_14 i13_18 i14_19 i15_20) else (f_x3_readPart_b_28 u0 i12 a1 g0_readPiece x_14 x_16 i13_18 i14_19 i15_20 self_J_13)
noncomputable def f_x3_readPart_J_13 (u0 : Int32) (i12 : Int32) (a1 : Nat → Int32) (g0_readPiece : Int32 → Int32 → Int32 → Int32 → Int32 → (Nat → Int32) → Int32 × Int32 × Int32 × Int32) (x_14 : Int32) (x_16 : Int32) (i13_18 : Int32) (i14_19 : Int32) (i15_20 : Int32) (self_J_13 : Int32 → Int32 → Int32 → Int32 → Int32 → Int32 × Int32 × Int32 × Int32) : Int32 × Int32 × Int32 × Int32 :=
  if x_14.toInt = 0 then (f_x3_readPart_b_22 x_14 i13_18 i14_19 i15_20) else (f_x3_readPart_b_24 u0 i12 a1 g0_readPiece x_14 x_16 i13_18 i14_19 i15_20 self_J_13)
noncomputable def f_x3_readPart_j13 (u0 : Int32) (i12 : Int32) (a1 : Nat → Int32) (g0_readPiece : Int32 → Int32 → Int32 → Int32 → Int32 → (Nat → Int32) → Int32 × Int32 × Int32 × Int32) (n : Nat) : Int32 → Int32 → Int32 → Int32 → Int32 → Int32 × Int32 × Int32 × Int32 :=
  Nat.rec (motive := fun _ => Int32 → Int32 → Int32 → Int32 → Int32 → Int32 × Int32 × Int32 × Int32) (fun _ _ _ _ _ => (0, 0, 0, 0)) (fun _ sq_ x_14 x_16 i13_18 i14_19 i15_20 => f_x3_readPart_J_13 u0 i12 a1 g0_readPiece x_14 x_16 i13_18 i14_19 i15_20 sq_) n
noncomputable def f_x3_readPart_b_12 (u0 : Int32) (i12 : Int32) (a1 : Nat → Int32) (g0_readPiece : Int32 → Int32 → Int32 → Int32 → Int32 → (Nat → Int32) → Int32 × Int32 × Int32 × Int32) (v_1 : Int32) (i13_4 : Int32) (i14_5 : Int32) (i15_6 : Int32) : Int32 × Int32 × Int32 × Int32 :=
  f_x3_readPart_j13 u0 i12 a1 g0_readPiece 161 v_1 ((0 : Int32)) i13_4 i14_5 i15_6
noncomputable def B_x3_readPart (u0 : Int32) (i12 : Int32) (i13 : Int32) (i14 : Int32) (i15 : Int32) (a1 : Nat → Int32) (g0_readPiece : Int32 → Int32 → Int32 → Int32 → Int32 → (Nat → Int32) → Int32 × Int32 × Int32 × Int32) : Int32 × Int32 × Int32 × Int32 :=
  let v_1 : Int32 := (g0_readPiece u0 i12 i13 i14 i15 a1).1
  let i13_4 : Int32 := (g0_readPiece u0 i12 i13 i14 i15 a1).2.1
  let i14_5 : Int32 := (g0_readPiece u0 i12 i13 i14 i15 a1).2.2.1
  let i15_6 : Int32 := (g0_readPiece u0 i12 i13 i14 i15 a1).2.2.2
  (f_x3_readPart_b_12 u0 i12 a1 g0_readPiece v_1 i13_4 i14_5 i15_6)
noncomputable def f_x3_readCondition_b_22 (x_14 : Int32) (i13_18 : Int32) (i14_19 : Int32) (i15_20 : Int32) : Int32 × Int32 × Int32 × Int32 :=
  (x_14, i13_18, i14_19, i15_20)
noncomputable def f_x3_readCondition_b_26 (x_14 : Int32) (i13_18 : Int32) (i14_19 : Int32) (i15_20 : Int32) : Int32 × Int32 × Int32 × Int32 :=
  (x_14, i13_18, i14_19, i15_20)
noncomputable def f_x3_readCondition_b_34 (x_14 : Int32) (i13_18 : Int32) (i14_19 : Int32) (i15_20 : Int32) : Int32 × Int32 × Int32 × Int32 :=
  (x_14, i13_18, i14_19, i15_20)
noncomputable def f_x3_readCondition_b_49 (x_16 : Int32) (self_J_13 : Int32 → Int32 → Int32 → Int32 → Int32 → Int32 × Int32 × Int32 × Int32) (v_38 : Int32) (i13_41 : Int32) (i14_42 : Int32) (i15_43 : Int32) : Int32 × Int32 × Int32 × Int32 :=
  let z_50 : Int32 := x_16 + Int32.ofInt 1
  self_J_13 v_38 z_50 i13_41 i14_42 i15_43
noncomputable def f_x3_readCondition_b_36 (u0 : Int32) (i12 : Int32) (a1 : Nat → Int32) (g0_readPart : Int32 → Int32 → Int32 → Int32 → Int32 → (Nat → Int32) → Int32 × Int32 × Int32 × Int32) (x_16 : Int32) (i13_18 : Int32) (i14_19 : Int32) (i15_20 : Int32) (self_J_13 : Int32 → Int32 → Int32 → Int32 → Int32 → Int32 × Int32 × Int32 × Int32) : Int32 × Int32 × Int32 × Int32 :=
  let z_37 : Int32 := i13_18 + (1 : Int32)
  let v_38 : Int32 := (g0_readPart u0 i12 z_37 i14_19 i15_20 a1).1
  let i13_41 : Int32 := (g0_readPart u0 i12 z_37 i14_19 i15_20 a1).2.1
  let i14_42 : Int32 := (g0_readPart u0 i12 z_37 i14_19 i15_20 a1).2.2.1
  let i15_43 : Int32 := (g0_readPart u0 i12 z_37 i14_19 i15_20 a1).2.2.2
  (f_x3_readCondition_b_49 x_16 self_J_13 v_38 i13_41 i14_42 i15_43)
noncomputable def f_x3_readCondition_b_28 (u0 : Int32) (i12 : Int32) (a1 : Nat → Int32) (g0_readPart : Int32 → Int32 → Int32 → Int32 → Int32 → (Nat → Int32) → Int32 × Int32 × Int32 × Int32) (x_14 : Int32) (x_16 : Int32) (i13_18 : Int32) (i14_19 : Int32) (i15_20 : Int32) (self_J_13 : Int32 → Int32 → Int32 → Int32 → Int32 → Int32 × Int32 × Int32 × Int32) : Int32 × Int32 × Int32 × Int32 :=
  let v_29 : Int32 := (F_x3_sign i12 i13_18 a1)
  if v_29.toInt ≠ 124 then (f_x3_readCondition_b_34 x_14 i13_18 i14_19 i15_20) else (f_x3_readCondition_b_36 u0 i12 a1 g0_readPart x_16 i13_18 i14_19 i15_20 self_J_13)
noncomputable def f_x3_readCondition_b_24 (u0 : Int32) (i12 : Int32) (a1 : Nat → Int32) (g0_readPart : Int32 → Int32 → Int32 → Int32 → Int32 → (Nat → Int32) → Int32 × Int32 × Int32 × Int32) (x_14 : Int32) (x_16 : Int32) (i13_18 : Int32) (i14_19 : Int32) (i15_20 : Int32) (self_J_13 : Int32 → Int32 → Int32 → Int32 → Int32 → Int32 × Int32 × Int32 × Int32) : Int32 × Int32 × Int32 × Int32 :=
  if x_16.toInt ≥ 160 then (f_x3_readCondition_b_26 x_14 i13_18 i14_19 i15_20) else (f_x3_readCondition_b_28 u0 i12 a1 g0_readPart x_14 x_16 i13_18 i14_19 i15_20 self_J_13)
noncomputable def f_x3_readCondition_J_13 (u0 : Int32) (i12 : Int32) (a1 : Nat → Int32) (g0_readPart : Int32 → Int32 → Int32 → Int32 → Int32 → (Nat → Int32) → Int32 × Int32 × Int32 × Int32) (x_14 : Int32) (x_16 : Int32) (i13_18 : Int32) (i14_19 : Int32) (i15_20 : Int32) (self_J_13 : Int32 → Int32 → Int32 → Int32 → Int32 → Int32 × Int32 × Int32 × Int32) : Int32 × Int32 × Int32 × Int32 :=
  if x_14.toInt = 0 then (f_x3_readCondition_b_22 x_14 i13_18 i14_19 i15_20) else (f_x3_readCondition_b_24 u0 i12 a1 g0_readPart x_14 x_16 i13_18 i14_19 i15_20 self_J_13)
noncomputable def f_x3_readCondition_j13 (u0 : Int32) (i12 : Int32) (a1 : Nat → Int32) (g0_readPart : Int32 → Int32 → Int32 → Int32 → Int32 → (Nat → Int32) → Int32 × Int32 × Int32 × Int32) (n : Nat) : Int32 → Int32 → Int32 → Int32 → Int32 → Int32 × Int32 × Int32 × Int32 :=
  Nat.rec (motive := fun _ => Int32 → Int32 → Int32 → Int32 → Int32 → Int32 × Int32 × Int32 × Int32) (fun _ _ _ _ _ => (0, 0, 0, 0)) (fun _ sq_ x_14 x_16 i13_18 i14_19 i15_20 => f_x3_readCondition_J_13 u0 i12 a1 g0_readPart x_14 x_16 i13_18 i14_19 i15_20 sq_) n
noncomputable def f_x3_readCondition_b_12 (u0 : Int32) (i12 : Int32) (a1 : Nat → Int32) (g0_readPart : Int32 → Int32 → Int32 → Int32 → Int32 → (Nat → Int32) → Int32 × Int32 × Int32 × Int32) (v_1 : Int32) (i13_4 : Int32) (i14_5 : Int32) (i15_6 : Int32) : Int32 × Int32 × Int32 × Int32 :=
  f_x3_readCondition_j13 u0 i12 a1 g0_readPart 161 v_1 ((0 : Int32)) i13_4 i14_5 i15_6
noncomputable def B_x3_readCondition (u0 : Int32) (i12 : Int32) (i13 : Int32) (i14 : Int32) (i15 : Int32) (a1 : Nat → Int32) (g0_readPart : Int32 → Int32 → Int32 → Int32 → Int32 → (Nat → Int32) → Int32 × Int32 × Int32 × Int32) : Int32 × Int32 × Int32 × Int32 :=
  let v_1 : Int32 := (g0_readPart u0 i12 i13 i14 i15 a1).1
  let i13_4 : Int32 := (g0_readPart u0 i12 i13 i14 i15 a1).2.1
  let i14_5 : Int32 := (g0_readPart u0 i12 i13 i14 i15 a1).2.2.1
  let i15_6 : Int32 := (g0_readPart u0 i12 i13 i14 i15 a1).2.2.2
  (f_x3_readCondition_b_12 u0 i12 a1 g0_readPart v_1 i13_4 i14_5 i15_6)
noncomputable def L_x3_readFactor (q : (Int32 → Int32 → Int32 → Int32 → Int32 → (Nat → Int32) → Int32 × Int32 × Int32 × Int32) × (Int32 → Int32 → Int32 → Int32 → Int32 → (Nat → Int32) → Int32 × Int32 × Int32 × Int32) × (Int32 → Int32 → Int32 → Int32 → Int32 → (Nat → Int32) → Int32 × Int32 × Int32 × Int32) × (Int32 → Int32 → Int32 → Int32 → Int32 → (Nat → Int32) → Int32 × Int32 × Int32 × Int32) × (Int32 → Int32 → Int32 → Int32 → Int32 → (Nat → Int32) → Int32 × Int32 × Int32 × Int32) × (Int32 → Int32 → Int32 → Int32 → Int32 → (Nat → Int32) → Int32 × Int32 × Int32 × Int32)) : Int32 → Int32 → Int32 → Int32 → Int32 → (Nat → Int32) → Int32 × Int32 × Int32 × Int32 := fun u0 i12 i13 i14 i15 a1 => B_x3_readFactor u0 i12 i13 i14 i15 a1 (q.2.2.1)
noncomputable def L_x3_readTerm (q : (Int32 → Int32 → Int32 → Int32 → Int32 → (Nat → Int32) → Int32 × Int32 × Int32 × Int32) × (Int32 → Int32 → Int32 → Int32 → Int32 → (Nat → Int32) → Int32 × Int32 × Int32 × Int32) × (Int32 → Int32 → Int32 → Int32 → Int32 → (Nat → Int32) → Int32 × Int32 × Int32 × Int32) × (Int32 → Int32 → Int32 → Int32 → Int32 → (Nat → Int32) → Int32 × Int32 × Int32 × Int32) × (Int32 → Int32 → Int32 → Int32 → Int32 → (Nat → Int32) → Int32 × Int32 × Int32 × Int32) × (Int32 → Int32 → Int32 → Int32 → Int32 → (Nat → Int32) → Int32 × Int32 × Int32 × Int32)) : Int32 → Int32 → Int32 → Int32 → Int32 → (Nat → Int32) → Int32 × Int32 × Int32 × Int32 := fun u0 i12 i13 i14 i15 a1 => B_x3_readTerm u0 i12 i13 i14 i15 a1 (L_x3_readFactor q)
noncomputable def L_x3_readSum (q : (Int32 → Int32 → Int32 → Int32 → Int32 → (Nat → Int32) → Int32 × Int32 × Int32 × Int32) × (Int32 → Int32 → Int32 → Int32 → Int32 → (Nat → Int32) → Int32 × Int32 × Int32 × Int32) × (Int32 → Int32 → Int32 → Int32 → Int32 → (Nat → Int32) → Int32 × Int32 × Int32 × Int32) × (Int32 → Int32 → Int32 → Int32 → Int32 → (Nat → Int32) → Int32 × Int32 × Int32 × Int32) × (Int32 → Int32 → Int32 → Int32 → Int32 → (Nat → Int32) → Int32 × Int32 × Int32 × Int32) × (Int32 → Int32 → Int32 → Int32 → Int32 → (Nat → Int32) → Int32 × Int32 × Int32 × Int32)) : Int32 → Int32 → Int32 → Int32 → Int32 → (Nat → Int32) → Int32 × Int32 × Int32 × Int32 := fun u0 i12 i13 i14 i15 a1 => B_x3_readSum u0 i12 i13 i14 i15 a1 (L_x3_readTerm q)
noncomputable def L_x3_readPiece (q : (Int32 → Int32 → Int32 → Int32 → Int32 → (Nat → Int32) → Int32 × Int32 × Int32 × Int32) × (Int32 → Int32 → Int32 → Int32 → Int32 → (Nat → Int32) → Int32 × Int32 × Int32 × Int32) × (Int32 → Int32 → Int32 → Int32 → Int32 → (Nat → Int32) → Int32 × Int32 × Int32 × Int32) × (Int32 → Int32 → Int32 → Int32 → Int32 → (Nat → Int32) → Int32 × Int32 × Int32 × Int32) × (Int32 → Int32 → Int32 → Int32 → Int32 → (Nat → Int32) → Int32 × Int32 × Int32 × Int32) × (Int32 → Int32 → Int32 → Int32 → Int32 → (Nat → Int32) → Int32 × Int32 × Int32 × Int32)) : Int32 → Int32 → Int32 → Int32 → Int32 → (Nat → Int32) → Int32 × Int32 × Int32 × Int32 := fun u0 i12 i13 i14 i15 a1 => B_x3_readPiece u0 i12 i13 i14 i15 a1 (L_x3_readSum q) (q.2.2.2.1) (q.2.2.2.2.2)
noncomputable def L_x3_readPart (q : (Int32 → Int32 → Int32 → Int32 → Int32 → (Nat → Int32) → Int32 × Int32 × Int32 × Int32) × (Int32 → Int32 → Int32 → Int32 → Int32 → (Nat → Int32) → Int32 × Int32 × Int32 × Int32) × (Int32 → Int32 → Int32 → Int32 → Int32 → (Nat → Int32) → Int32 × Int32 × Int32 × Int32) × (Int32 → Int32 → Int32 → Int32 → Int32 → (Nat → Int32) → Int32 × Int32 × Int32 × Int32) × (Int32 → Int32 → Int32 → Int32 → Int32 → (Nat → Int32) → Int32 × Int32 × Int32 × Int32) × (Int32 → Int32 → Int32 → Int32 → Int32 → (Nat → Int32) → Int32 × Int32 × Int32 × Int32)) : Int32 → Int32 → Int32 → Int32 → Int32 → (Nat → Int32) → Int32 × Int32 × Int32 × Int32 := fun u0 i12 i13 i14 i15 a1 => B_x3_readPart u0 i12 i13 i14 i15 a1 (L_x3_readPiece q)
noncomputable def L_x3_readCondition (q : (Int32 → Int32 → Int32 → Int32 → Int32 → (Nat → Int32) → Int32 × Int32 × Int32 × Int32) × (Int32 → Int32 → Int32 → Int32 → Int32 → (Nat → Int32) → Int32 × Int32 × Int32 × Int32) × (Int32 → Int32 → Int32 → Int32 → Int32 → (Nat → Int32) → Int32 × Int32 × Int32 × Int32) × (Int32 → Int32 → Int32 → Int32 → Int32 → (Nat → Int32) → Int32 × Int32 × Int32 × Int32) × (Int32 → Int32 → Int32 → Int32 → Int32 → (Nat → Int32) → Int32 × Int32 × Int32 × Int32) × (Int32 → Int32 → Int32 → Int32 → Int32 → (Nat → Int32) → Int32 × Int32 × Int32 × Int32)) : Int32 → Int32 → Int32 → Int32 → Int32 → (Nat → Int32) → Int32 × Int32 × Int32 × Int32 := fun u0 i12 i13 i14 i15 a1 => B_x3_readCondition u0 i12 i13 i14 i15 a1 (L_x3_readPart q)
noncomputable def GT_x3_T : Nat → (Int32 → Int32 → Int32 → Int32 → Int32 → (Nat → Int32) → Int32 × Int32 × Int32 × Int32) × (Int32 → Int32 → Int32 → Int32 → Int32 → (Nat → Int32) → Int32 × Int32 × Int32 × Int32) × (Int32 → Int32 → Int32 → Int32 → Int32 → (Nat → Int32) → Int32 × Int32 × Int32 × Int32) × (Int32 → Int32 → Int32 → Int32 → Int32 → (Nat → Int32) → Int32 × Int32 × Int32 × Int32) × (Int32 → Int32 → Int32 → Int32 → Int32 → (Nat → Int32) → Int32 × Int32 × Int32 × Int32) × (Int32 → Int32 → Int32 → Int32 → Int32 → (Nat → Int32) → Int32 × Int32 × Int32 × Int32)
  | 0 => ((fun _ _ _ _ _ _ => (0, 0, 0, 0)), (fun _ _ _ _ _ _ => (0, 0, 0, 0)), (fun _ _ _ _ _ _ => (0, 0, 0, 0)), (fun _ _ _ _ _ _ => (0, 0, 0, 0)), (fun _ _ _ _ _ _ => (0, 0, 0, 0)), (fun _ _ _ _ _ _ => (0, 0, 0, 0)))
  | d + 1 => (L_x3_readFactor (GT_x3_T d), L_x3_readTerm (GT_x3_T d), L_x3_readSum (GT_x3_T d), L_x3_readPiece (GT_x3_T d), L_x3_readPart (GT_x3_T d), L_x3_readCondition (GT_x3_T d))
theorem GT_x3_T_s {d : Nat} : GT_x3_T (d + 1) = (L_x3_readFactor (GT_x3_T d), L_x3_readTerm (GT_x3_T d), L_x3_readSum (GT_x3_T d), L_x3_readPiece (GT_x3_T d), L_x3_readPart (GT_x3_T d), L_x3_readCondition (GT_x3_T d)) := rfl
noncomputable def P_x3_readFactor (d : Nat) : Int32 → Int32 → Int32 → Int32 → Int32 → (Nat → Int32) → Int32 × Int32 × Int32 × Int32 := (GT_x3_T d).1
noncomputable def G_x3_readFactor (d : Nat) : Int32 → Int32 → Int32 → Int32 → Int32 → (Nat → Int32) → Int32 × Int32 × Int32 × Int32 := L_x3_readFactor (GT_x3_T d)
theorem P_x3_readFactor_pred {d : Nat} (h : 1 ≤ d) : P_x3_readFactor d = G_x3_readFactor (d - 1) := by
  cases d with
  | zero => omega
  | succ d =>
    show (GT_x3_T (d + 1)).1 = L_x3_readFactor (GT_x3_T d)
    rw [GT_x3_T_s]
