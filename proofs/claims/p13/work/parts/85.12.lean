noncomputable def F_m12_ends (i14 : Int32) (i15 : Int32) (a27 : Nat → Int32) : Int32 × Int32 :=
  let v_4 : Int32 := (F_m12_top i15 a27)
  if v_4.toInt ≠ 33 then (f_m12_ends_b_10 i14 i15) else (f_m12_ends_b_11 i14 i15 a27)
noncomputable def f_m12_factor_b_46 (i9_2 : Int32) (i11_3 : Int32) (i14_4 : Int32) (i15_5 : Int32) (a27_6 : Nat → Int32) : Int32 × Int32 × Int32 × Int32 × (Nat → Int32) :=
  let i11_50 : Int32 := (F_m12_fails (1 : Int32) i9_2 i11_3)
  (i9_2, i11_50, i14_4, i15_5, a27_6)
noncomputable def f_m12_factor_b_54 (i9_2 : Int32) (i11_3 : Int32) (i14_4 : Int32) (i15_5 : Int32) (a27_6 : Nat → Int32) : Int32 × Int32 × Int32 × Int32 × (Nat → Int32) :=
  let z_73 : Int32 := i9_2 + (1 : Int32)
  (z_73, i11_3, i14_4, i15_5, a27_6)
noncomputable def f_m12_factor_b_35 (i10 : Int32) (a1 : Nat → Int32) (i9_2 : Int32) (i11_3 : Int32) (i14_4 : Int32) (i15_5 : Int32) (a27_6 : Nat → Int32) : Int32 × Int32 × Int32 × Int32 × (Nat → Int32) :=
  let v_36 : Int32 := (F_m12_here i9_2 i10 a1)
  let v_41 : Int32 := (F_m12_isValue v_36)
  if v_41.toInt = 0 then (f_m12_factor_b_46 i9_2 i11_3 i14_4 i15_5 a27_6) else (f_m12_factor_b_54 i9_2 i11_3 i14_4 i15_5 a27_6)
noncomputable def f_m12_factor_b_74 (i10 : Int32) (a1 : Nat → Int32) (i9_2 : Int32) (i11_3 : Int32) (i14_4 : Int32) (i15_5 : Int32) (a27_6 : Nat → Int32) : Int32 × Int32 × Int32 × Int32 × (Nat → Int32) :=
  let i9_78 : Int32 := (F_m12_readsNumber (99999 : Int32) i9_2 i10 i11_3 a1).2.1
  let i11_79 : Int32 := (F_m12_readsNumber (99999 : Int32) i9_2 i10 i11_3 a1).2.2
  (i9_78, i11_79, i14_4, i15_5, a27_6)
noncomputable def f_m12_factor_b_28 (i10 : Int32) (a1 : Nat → Int32) (i9_2 : Int32) (i11_3 : Int32) (i14_4 : Int32) (i15_5 : Int32) (a27_6 : Nat → Int32) : Int32 × Int32 × Int32 × Int32 × (Nat → Int32) :=
  let v_29 : Int32 := (F_m12_seesDigit i9_2 i10 a1)
  if v_29.toInt = 0 then (f_m12_factor_b_35 i10 a1 i9_2 i11_3 i14_4 i15_5 a27_6) else (f_m12_factor_b_74 i10 a1 i9_2 i11_3 i14_4 i15_5 a27_6)
noncomputable def f_m12_factor_b_101 (i9_2 : Int32) (i11_3 : Int32) (i14_4 : Int32) (i15_5 : Int32) (a27_6 : Nat → Int32) : Int32 × Int32 × Int32 × Int32 × (Nat → Int32) :=
  (i9_2, i11_3, i14_4, i15_5, a27_6)
noncomputable def f_m12_factor_J_21 (i10 : Int32) (a1 : Nat → Int32) (i9_2 : Int32) (i11_3 : Int32) (i14_4 : Int32) (i15_5 : Int32) (a27_6 : Nat → Int32) : Int32 × Int32 × Int32 × Int32 × (Nat → Int32) :=
  let v_22 : Int32 := (F_m12_isGood i11_3)
  if v_22.toInt ≠ 0 then (f_m12_factor_b_28 i10 a1 i9_2 i11_3 i14_4 i15_5 a27_6) else (f_m12_factor_b_101 i9_2 i11_3 i14_4 i15_5 a27_6)
noncomputable def f_m12_factor_j21 (i10 : Int32) (a1 : Nat → Int32) (i9_2 : Int32) (i11_3 : Int32) (i14_4 : Int32) (i15_5 : Int32) (a27_6 : Nat → Int32) : Int32 × Int32 × Int32 × Int32 × (Nat → Int32) := f_m12_factor_J_21 i10 a1 i9_2 i11_3 i14_4 i15_5 a27_6
noncomputable def f_m12_factor_b_103 (i10 : Int32) (a1 : Nat → Int32) (i9_2 : Int32) (i11_3 : Int32) (i14_4 : Int32) (i15_5 : Int32) (a27_6 : Nat → Int32) : Int32 × Int32 × Int32 × Int32 × (Nat → Int32) :=
  f_m12_factor_j21 i10 a1 i9_2 i11_3 i14_4 i15_5 a27_6
noncomputable def f_m12_factor_b_111 (i10 : Int32) (a1 : Nat → Int32) (i9_2 : Int32) (i11_3 : Int32) (i14_4 : Int32) (i15_5 : Int32) (a27_6 : Nat → Int32) : Int32 × Int32 × Int32 × Int32 × (Nat → Int32) :=
  f_m12_factor_j21 i10 a1 i9_2 i11_3 i14_4 i15_5 a27_6
noncomputable def f_m12_factor_b_112 (i10 : Int32) (a1 : Nat → Int32) (i9_2 : Int32) (i11_3 : Int32) (i14_4 : Int32) (i15_5 : Int32) (a27_6 : Nat → Int32) (self_J_1 : Int32 → Int32 → Int32 → Int32 → (Nat → Int32) → Int32 × Int32 × Int32 × Int32 × (Nat → Int32)) : Int32 × Int32 × Int32 × Int32 × (Nat → Int32) :=
  let i9_116 : Int32 := (F_m12_opens i9_2 i10 i11_3 i14_4 i15_5 a1 a27_6).1
  let i11_117 : Int32 := (F_m12_opens i9_2 i10 i11_3 i14_4 i15_5 a1 a27_6).2.1
  let i14_118 : Int32 := (F_m12_opens i9_2 i10 i11_3 i14_4 i15_5 a1 a27_6).2.2.1
  let i15_119 : Int32 := (F_m12_opens i9_2 i10 i11_3 i14_4 i15_5 a1 a27_6).2.2.2.1
  let a27_120 : Nat → Int32 := (F_m12_opens i9_2 i10 i11_3 i14_4 i15_5 a1 a27_6).2.2.2.2
  self_J_1 i9_116 i11_117 i14_118 i15_119 a27_120
noncomputable def f_m12_factor_b_104 (i10 : Int32) (a1 : Nat → Int32) (i9_2 : Int32) (i11_3 : Int32) (i14_4 : Int32) (i15_5 : Int32) (a27_6 : Nat → Int32) (self_J_1 : Int32 → Int32 → Int32 → Int32 → (Nat → Int32) → Int32 × Int32 × Int32 × Int32 × (Nat → Int32)) : Int32 × Int32 × Int32 × Int32 × (Nat → Int32) :=
  let v_105 : Int32 := (F_m12_here i9_2 i10 a1)
  if v_105.toInt ≠ 91 then (f_m12_factor_b_111 i10 a1 i9_2 i11_3 i14_4 i15_5 a27_6) else (f_m12_factor_b_112 i10 a1 i9_2 i11_3 i14_4 i15_5 a27_6 self_J_1)
noncomputable def f_m12_factor_J_1 (i10 : Int32) (a1 : Nat → Int32) (i9_2 : Int32) (i11_3 : Int32) (i14_4 : Int32) (i15_5 : Int32) (a27_6 : Nat → Int32) (self_J_1 : Int32 → Int32 → Int32 → Int32 → (Nat → Int32) → Int32 × Int32 × Int32 × Int32 × (Nat → Int32)) : Int32 × Int32 × Int32 × Int32 × (Nat → Int32) :=
  let v_16 : Int32 := (F_m12_isGood i11_3)
  if v_16.toInt = 0 then (f_m12_factor_b_103 i10 a1 i9_2 i11_3 i14_4 i15_5 a27_6) else (f_m12_factor_b_104 i10 a1 i9_2 i11_3 i14_4 i15_5 a27_6 self_J_1)
noncomputable def f_m12_factor_j1 (i10 : Int32) (a1 : Nat → Int32) (n : Nat) : Int32 → Int32 → Int32 → Int32 → (Nat → Int32) → Int32 × Int32 × Int32 × Int32 × (Nat → Int32) :=
  Nat.rec (motive := fun _ => Int32 → Int32 → Int32 → Int32 → (Nat → Int32) → Int32 × Int32 × Int32 × Int32 × (Nat → Int32)) (fun _ _ _ _ _ => (0, 0, 0, 0, (fun _ => 0))) (fun _ sq_ i9_2 i11_3 i14_4 i15_5 a27_6 => f_m12_factor_J_1 i10 a1 i9_2 i11_3 i14_4 i15_5 a27_6 sq_) n
noncomputable def F_m12_factor (i9 : Int32) (i10 : Int32) (i11 : Int32) (i14 : Int32) (i15 : Int32) (a1 : Nat → Int32) (a27 : Nat → Int32) : Int32 × Int32 × Int32 × Int32 × (Nat → Int32) :=
  f_m12_factor_j1 i10 a1 180 i9 i11 i14 i15 a27
noncomputable def f_m12_goesOn_b_11 (i9 : Int32) (i11 : Int32) (i14 : Int32) (i15 : Int32) (i17 : Int32) (a27 : Nat → Int32) (v_1 : Int32) : Int32 × Int32 × Int32 × Int32 × Int32 × Int32 × (Nat → Int32) :=
  let v_12 : Int32 := (F_m12_isPlus v_1)
  let i15_20 : Int32 := (F_m12_sums v_12 i15 a27)
  let i9_40 : Int32 := (F_m12_puts v_1 i9 i15_20 a27).1
  let i15_41 : Int32 := (F_m12_puts v_1 i9 i15_20 a27).2.1
  let a27_42 : Nat → Int32 := (F_m12_puts v_1 i9 i15_20 a27).2.2
  ((1 : Int32), i9_40, i11, i14, i15_41, i17, a27_42)
noncomputable def f_m12_goesOn_b_98 (i9 : Int32) (i11 : Int32) (i14 : Int32) (i17 : Int32) (a27 : Nat → Int32) (i15_64 : Int32) : Int32 × Int32 × Int32 × Int32 × Int32 × Int32 × (Nat → Int32) :=
  let i11_102 : Int32 := (F_m12_fails (1 : Int32) i9 i11)
  ((0 : Int32), i9, i11_102, i14, i15_64, i17, a27)
noncomputable def f_m12_goesOn_b_107 (i9 : Int32) (i11 : Int32) (i14 : Int32) (i17 : Int32) (a27 : Nat → Int32) (i15_64 : Int32) : Int32 × Int32 × Int32 × Int32 × Int32 × Int32 × (Nat → Int32) :=
  let z_129 : Int32 := i15_64 - (1 : Int32)
  ((0 : Int32), i9, i11, i14, z_129, i17, a27)
noncomputable def f_m12_goesOn_b_87 (i9 : Int32) (i11 : Int32) (i14 : Int32) (i17 : Int32) (a27 : Nat → Int32) (i15_64 : Int32) : Int32 × Int32 × Int32 × Int32 × Int32 × Int32 × (Nat → Int32) :=
  let v_88 : Int32 := (F_m12_top i15_64 a27)
  let v_93 : Int32 := (F_m12_isSign v_88)
  if v_93.toInt = 0 then (f_m12_goesOn_b_98 i9 i11 i14 i17 a27 i15_64) else (f_m12_goesOn_b_107 i9 i11 i14 i17 a27 i15_64)
noncomputable def f_m12_goesOn_b_139 (i9 : Int32) (i11 : Int32) (i14 : Int32) (i17 : Int32) (a27 : Nat → Int32) (v_1 : Int32) (i15_64 : Int32) : Int32 × Int32 × Int32 × Int32 × Int32 × Int32 × (Nat → Int32) :=
  let i11_143 : Int32 := (F_m12_fails (1 : Int32) i9 i11)
  let i9_150 : Int32 := (F_m12_puts v_1 i9 i15_64 a27).1
  let i15_151 : Int32 := (F_m12_puts v_1 i9 i15_64 a27).2.1
  let a27_152 : Nat → Int32 := (F_m12_puts v_1 i9 i15_64 a27).2.2
  ((1 : Int32), i9_150, i11_143, i14, i15_151, i17, a27_152)
noncomputable def f_m12_goesOn_b_174 (i9 : Int32) (i11 : Int32) (i14 : Int32) (i17 : Int32) (a27 : Nat → Int32) (v_1 : Int32) (i15_64 : Int32) : Int32 × Int32 × Int32 × Int32 × Int32 × Int32 × (Nat → Int32) :=
  let i9_178 : Int32 := (F_m12_puts v_1 i9 i15_64 a27).1
  let i15_179 : Int32 := (F_m12_puts v_1 i9 i15_64 a27).2.1
  let a27_180 : Nat → Int32 := (F_m12_puts v_1 i9 i15_64 a27).2.2
  ((1 : Int32), i9_178, i11, i14, i15_179, i17, a27_180)
noncomputable def f_m12_goesOn_b_191 (i9 : Int32) (i11 : Int32) (i14 : Int32) (i17 : Int32) (a27 : Nat → Int32) (v_1 : Int32) (i15_64 : Int32) : Int32 × Int32 × Int32 × Int32 × Int32 × Int32 × (Nat → Int32) :=
  let i11_195 : Int32 := (F_m12_fails (1 : Int32) i9 i11)
  let i9_202 : Int32 := (F_m12_puts v_1 i9 i15_64 a27).1
  let i15_203 : Int32 := (F_m12_puts v_1 i9 i15_64 a27).2.1
  let a27_204 : Nat → Int32 := (F_m12_puts v_1 i9 i15_64 a27).2.2
  ((1 : Int32), i9_202, i11_195, i14, i15_203, i17, a27_204)
noncomputable def f_m12_goesOn_b_163 (i9 : Int32) (i11 : Int32) (i14 : Int32) (i17 : Int32) (a27 : Nat → Int32) (v_1 : Int32) (i15_64 : Int32) : Int32 × Int32 × Int32 × Int32 × Int32 × Int32 × (Nat → Int32) :=
  let v_164 : Int32 := (F_m12_top i15_64 a27)
  let v_169 : Int32 := (F_m12_isSign v_164)
  if v_169.toInt = 0 then (f_m12_goesOn_b_174 i9 i11 i14 i17 a27 v_1 i15_64) else (f_m12_goesOn_b_191 i9 i11 i14 i17 a27 v_1 i15_64)
noncomputable def f_m12_goesOn_b_132 (i9 : Int32) (i11 : Int32) (i14 : Int32) (i17 : Int32) (a27 : Nat → Int32) (v_1 : Int32) (i15_64 : Int32) : Int32 × Int32 × Int32 × Int32 × Int32 × Int32 × (Nat → Int32) :=
  let v_133 : Int32 := (F_m12_top i15_64 a27)
  if v_133.toInt = 91 then (f_m12_goesOn_b_139 i9 i11 i14 i17 a27 v_1 i15_64) else (f_m12_goesOn_b_163 i9 i11 i14 i17 a27 v_1 i15_64)
noncomputable def f_m12_goesOn_b_81 (i9 : Int32) (i11 : Int32) (i14 : Int32) (i17 : Int32) (a27 : Nat → Int32) (v_1 : Int32) (i15_64 : Int32) : Int32 × Int32 × Int32 × Int32 × Int32 × Int32 × (Nat → Int32) :=
  let v_82 : Int32 := (F_m12_isSign v_1)
  if v_82.toInt = 0 then (f_m12_goesOn_b_87 i9 i11 i14 i17 a27 i15_64) else (f_m12_goesOn_b_132 i9 i11 i14 i17 a27 v_1 i15_64)
noncomputable def f_m12_goesOn_b_222 (i9 : Int32) (i11 : Int32) (i14 : Int32) (a27 : Nat → Int32) (i15_64 : Int32) : Int32 × Int32 × Int32 × Int32 × Int32 × Int32 × (Nat → Int32) :=
  let z_226 : Int32 := i15_64 - (1 : Int32)
  let z_228 : Int32 := i14 - (1 : Int32)
  let z_229 : Int32 := i9 + (1 : Int32)
  ((1 : Int32), z_229, i11, z_228, z_226, (1 : Int32), a27)
noncomputable def f_m12_goesOn_b_231 (i9 : Int32) (i11 : Int32) (i14 : Int32) (i17 : Int32) (a27 : Nat → Int32) (i15_64 : Int32) : Int32 × Int32 × Int32 × Int32 × Int32 × Int32 × (Nat → Int32) :=
  let i11_235 : Int32 := (F_m12_fails (1 : Int32) i9 i11)
  ((0 : Int32), i9, i11_235, i14, i15_64, i17, a27)
noncomputable def f_m12_goesOn_b_215 (i9 : Int32) (i11 : Int32) (i14 : Int32) (i17 : Int32) (a27 : Nat → Int32) (i15_64 : Int32) : Int32 × Int32 × Int32 × Int32 × Int32 × Int32 × (Nat → Int32) :=
  let v_216 : Int32 := (F_m12_top i15_64 a27)
  if v_216.toInt = 91 then (f_m12_goesOn_b_222 i9 i11 i14 a27 i15_64) else (f_m12_goesOn_b_231 i9 i11 i14 i17 a27 i15_64)
noncomputable def f_m12_goesOn_b_59 (i9 : Int32) (i11 : Int32) (i14 : Int32) (i15 : Int32) (i17 : Int32) (a27 : Nat → Int32) (v_1 : Int32) : Int32 × Int32 × Int32 × Int32 × Int32 × Int32 × (Nat → Int32) :=
  let i15_64 : Int32 := (F_m12_sums (1 : Int32) i15 a27)
  if v_1.toInt ≠ 93 then (f_m12_goesOn_b_81 i9 i11 i14 i17 a27 v_1 i15_64) else (f_m12_goesOn_b_215 i9 i11 i14 i17 a27 i15_64)
noncomputable def f_m12_goesOn_b_240 (i9 : Int32) (i11 : Int32) (i14 : Int32) (i15 : Int32) (i17 : Int32) (a27 : Nat → Int32) (v_1 : Int32) : Int32 × Int32 × Int32 × Int32 × Int32 × Int32 × (Nat → Int32) :=
  let v_241 : Int32 := (F_m12_isPlus v_1)
  let i15_249 : Int32 := (F_m12_sums v_241 i15 a27)
  let i9_269 : Int32 := (F_m12_puts v_1 i9 i15_249 a27).1
  let i15_270 : Int32 := (F_m12_puts v_1 i9 i15_249 a27).2.1
  let a27_271 : Nat → Int32 := (F_m12_puts v_1 i9 i15_249 a27).2.2
  ((1 : Int32), i9_269, i11, i14, i15_270, i17, a27_271)
noncomputable def f_m12_goesOn_b_53 (i9 : Int32) (i11 : Int32) (i14 : Int32) (i15 : Int32) (i17 : Int32) (a27 : Nat → Int32) (v_1 : Int32) : Int32 × Int32 × Int32 × Int32 × Int32 × Int32 × (Nat → Int32) :=
  let v_54 : Int32 := (F_m12_isPlus v_1)
  if v_54.toInt = 0 then (f_m12_goesOn_b_59 i9 i11 i14 i15 i17 a27 v_1) else (f_m12_goesOn_b_240 i9 i11 i14 i15 i17 a27 v_1)
noncomputable def F_m12_goesOn (i9 : Int32) (i10 : Int32) (i11 : Int32) (i14 : Int32) (i15 : Int32) (i17 : Int32) (a1 : Nat → Int32) (a27 : Nat → Int32) : Int32 × Int32 × Int32 × Int32 × Int32 × Int32 × (Nat → Int32) :=
  let v_1 : Int32 := (F_m12_here i9 i10 a1)
  let v_6 : Int32 := (F_m12_isTimes v_1)
  if v_6.toInt ≠ 0 then (f_m12_goesOn_b_11 i9 i11 i14 i15 i17 a27 v_1) else (f_m12_goesOn_b_53 i9 i11 i14 i15 i17 a27 v_1)
noncomputable def f_m12_piece_b_56 (i9_26 : Int32) (i11_27 : Int32) (i14_29 : Int32) (i15_30 : Int32) (i17_31 : Int32) (a27_33 : Nat → Int32) : Int32 × Int32 × Int32 × Int32 × Int32 × (Nat → Int32) :=
  (i9_26, i11_27, i14_29, i15_30, i17_31, a27_33)
noncomputable def f_m12_piece_b_57 (i9_26 : Int32) (i11_27 : Int32) (i14_29 : Int32) (i15_30 : Int32) (i17_31 : Int32) (a27_33 : Nat → Int32) : Int32 × Int32 × Int32 × Int32 × Int32 × (Nat → Int32) :=
  let i14_62 : Int32 := (F_m12_ends i14_29 i15_30 a27_33).1
  let i15_63 : Int32 := (F_m12_ends i14_29 i15_30 a27_33).2
  (i9_26, i11_27, i14_62, i15_63, i17_31, a27_33)
noncomputable def f_m12_piece_b_49 (i9_26 : Int32) (i11_27 : Int32) (i14_29 : Int32) (i15_30 : Int32) (i17_31 : Int32) (a27_33 : Nat → Int32) : Int32 × Int32 × Int32 × Int32 × Int32 × (Nat → Int32) :=
  let v_50 : Int32 := (F_m12_isGood i11_27)
  if v_50.toInt = 0 then (f_m12_piece_b_56 i9_26 i11_27 i14_29 i15_30 i17_31 a27_33) else (f_m12_piece_b_57 i9_26 i11_27 i14_29 i15_30 i17_31 a27_33)
noncomputable def f_m12_piece_b_94 (i9_26 : Int32) (i11_27 : Int32) (i14_29 : Int32) (i15_30 : Int32) (i17_31 : Int32) (a27_33 : Nat → Int32) : Int32 × Int32 × Int32 × Int32 × Int32 × (Nat → Int32) :=
  (i9_26, i11_27, i14_29, i15_30, i17_31, a27_33)
noncomputable def f_m12_piece_b_87 (i9_26 : Int32) (i11_27 : Int32) (i14_29 : Int32) (i15_30 : Int32) (i17_31 : Int32) (a27_33 : Nat → Int32) : Int32 × Int32 × Int32 × Int32 × Int32 × (Nat → Int32) :=
  (f_m12_piece_b_94 i9_26 i11_27 i14_29 i15_30 i17_31 a27_33)
noncomputable def f_m12_piece_b_124 (self_J_23 : Int32 → Int32 → Int32 → Int32 → Int32 → Int32 → (Nat → Int32) → Int32 × Int32 × Int32 × Int32 × Int32 × (Nat → Int32)) (i9_97 : Int32) (i11_98 : Int32) (i14_100 : Int32) (i15_101 : Int32) (a27_103 : Nat → Int32) : Int32 × Int32 × Int32 × Int32 × Int32 × (Nat → Int32) :=
  self_J_23 ((0 : Int32)) i9_97 i11_98 i14_100 i15_101 ((0 : Int32)) a27_103
noncomputable def f_m12_piece_b_159 (self_J_23 : Int32 → Int32 → Int32 → Int32 → Int32 → Int32 → (Nat → Int32) → Int32 × Int32 × Int32 × Int32 × Int32 × (Nat → Int32)) (i9_129 : Int32) (i11_130 : Int32) (i14_132 : Int32) (i15_133 : Int32) (i17_134 : Int32) (a27_136 : Nat → Int32) : Int32 × Int32 × Int32 × Int32 × Int32 × (Nat → Int32) :=
  self_J_23 ((0 : Int32)) i9_129 i11_130 i14_132 i15_133 i17_134 a27_136
noncomputable def f_m12_piece_b_160 (self_J_23 : Int32 → Int32 → Int32 → Int32 → Int32 → Int32 → (Nat → Int32) → Int32 × Int32 × Int32 × Int32 × Int32 × (Nat → Int32)) (i9_129 : Int32) (i11_130 : Int32) (i14_132 : Int32) (i15_133 : Int32) (i17_134 : Int32) (a27_136 : Nat → Int32) : Int32 × Int32 × Int32 × Int32 × Int32 × (Nat → Int32) :=
  self_J_23 ((1 : Int32)) i9_129 i11_130 i14_132 i15_133 i17_134 a27_136
noncomputable def f_m12_piece_b_125 (i10 : Int32) (a1 : Nat → Int32) (self_J_23 : Int32 → Int32 → Int32 → Int32 → Int32 → Int32 → (Nat → Int32) → Int32 × Int32 × Int32 × Int32 × Int32 × (Nat → Int32)) (i9_97 : Int32) (i11_98 : Int32) (i14_100 : Int32) (i15_101 : Int32) (a27_103 : Nat → Int32) : Int32 × Int32 × Int32 × Int32 × Int32 × (Nat → Int32) :=
  let v_126 : Int32 := (F_m12_goesOn i9_97 i10 i11_98 i14_100 i15_101 (0 : Int32) a1 a27_103).1
  let i9_129 : Int32 := (F_m12_goesOn i9_97 i10 i11_98 i14_100 i15_101 (0 : Int32) a1 a27_103).2.1
  let i11_130 : Int32 := (F_m12_goesOn i9_97 i10 i11_98 i14_100 i15_101 (0 : Int32) a1 a27_103).2.2.1
  let i14_132 : Int32 := (F_m12_goesOn i9_97 i10 i11_98 i14_100 i15_101 (0 : Int32) a1 a27_103).2.2.2.1
  let i15_133 : Int32 := (F_m12_goesOn i9_97 i10 i11_98 i14_100 i15_101 (0 : Int32) a1 a27_103).2.2.2.2.1
  let i17_134 : Int32 := (F_m12_goesOn i9_97 i10 i11_98 i14_100 i15_101 (0 : Int32) a1 a27_103).2.2.2.2.2.1
  let a27_136 : Nat → Int32 := (F_m12_goesOn i9_97 i10 i11_98 i14_100 i15_101 (0 : Int32) a1 a27_103).2.2.2.2.2.2
  if v_126.toInt = 0 then (f_m12_piece_b_159 self_J_23 i9_129 i11_130 i14_132 i15_133 i17_134 a27_136) else (f_m12_piece_b_160 self_J_23 i9_129 i11_130 i14_132 i15_133 i17_134 a27_136)
noncomputable def f_m12_piece_J_96 (i10 : Int32) (a1 : Nat → Int32) (self_J_23 : Int32 → Int32 → Int32 → Int32 → Int32 → Int32 → (Nat → Int32) → Int32 × Int32 × Int32 × Int32 × Int32 × (Nat → Int32)) (i9_97 : Int32) (i11_98 : Int32) (i14_100 : Int32) (i15_101 : Int32) (a27_103 : Nat → Int32) : Int32 × Int32 × Int32 × Int32 × Int32 × (Nat → Int32) :=
  let v_118 : Int32 := (F_m12_isGood i11_98)
  if v_118.toInt = 0 then (f_m12_piece_b_124 self_J_23 i9_97 i11_98 i14_100 i15_101 a27_103) else (f_m12_piece_b_125 i10 a1 self_J_23 i9_97 i11_98 i14_100 i15_101 a27_103)
noncomputable def f_m12_piece_j96 (i10 : Int32) (a1 : Nat → Int32) (self_J_23 : Int32 → Int32 → Int32 → Int32 → Int32 → Int32 → (Nat → Int32) → Int32 × Int32 × Int32 × Int32 × Int32 × (Nat → Int32)) (i9_97 : Int32) (i11_98 : Int32) (i14_100 : Int32) (i15_101 : Int32) (a27_103 : Nat → Int32) : Int32 × Int32 × Int32 × Int32 × Int32 × (Nat → Int32) := f_m12_piece_J_96 i10 a1 self_J_23 i9_97 i11_98 i14_100 i15_101 a27_103
noncomputable def f_m12_piece_b_162 (i10 : Int32) (a1 : Nat → Int32) (i9_26 : Int32) (i11_27 : Int32) (i14_29 : Int32) (i15_30 : Int32) (a27_33 : Nat → Int32) (self_J_23 : Int32 → Int32 → Int32 → Int32 → Int32 → Int32 → (Nat → Int32) → Int32 × Int32 × Int32 × Int32 × Int32 × (Nat → Int32)) : Int32 × Int32 × Int32 × Int32 × Int32 × (Nat → Int32) :=
  f_m12_piece_j96 i10 a1 self_J_23 i9_26 i11_27 i14_29 i15_30 a27_33
noncomputable def f_m12_piece_b_163 (i10 : Int32) (a1 : Nat → Int32) (i9_26 : Int32) (i11_27 : Int32) (i14_29 : Int32) (i15_30 : Int32) (a27_33 : Nat → Int32) (self_J_23 : Int32 → Int32 → Int32 → Int32 → Int32 → Int32 → (Nat → Int32) → Int32 × Int32 × Int32 × Int32 × Int32 × (Nat → Int32)) : Int32 × Int32 × Int32 × Int32 × Int32 × (Nat → Int32) :=
  let i9_167 : Int32 := (F_m12_factor i9_26 i10 i11_27 i14_29 i15_30 a1 a27_33).1
  let i11_168 : Int32 := (F_m12_factor i9_26 i10 i11_27 i14_29 i15_30 a1 a27_33).2.1
  let i14_170 : Int32 := (F_m12_factor i9_26 i10 i11_27 i14_29 i15_30 a1 a27_33).2.2.1
  let i15_171 : Int32 := (F_m12_factor i9_26 i10 i11_27 i14_29 i15_30 a1 a27_33).2.2.2.1
  let a27_173 : Nat → Int32 := (F_m12_factor i9_26 i10 i11_27 i14_29 i15_30 a1 a27_33).2.2.2.2
  f_m12_piece_j96 i10 a1 self_J_23 i9_167 i11_168 i14_170 i15_171 a27_173
noncomputable def f_m12_piece_b_95 (i10 : Int32) (a1 : Nat → Int32) (i9_26 : Int32) (i11_27 : Int32) (i14_29 : Int32) (i15_30 : Int32) (i17_31 : Int32) (a27_33 : Nat → Int32) (self_J_23 : Int32 → Int32 → Int32 → Int32 → Int32 → Int32 → (Nat → Int32) → Int32 × Int32 × Int32 × Int32 × Int32 × (Nat → Int32)) : Int32 × Int32 × Int32 × Int32 × Int32 × (Nat → Int32) :=
  if i17_31.toInt ≠ 0 then (f_m12_piece_b_162 i10 a1 i9_26 i11_27 i14_29 i15_30 a27_33 self_J_23) else (f_m12_piece_b_163 i10 a1 i9_26 i11_27 i14_29 i15_30 a27_33 self_J_23)
noncomputable def f_m12_piece_b_80 (i10 : Int32) (a1 : Nat → Int32) (i9_26 : Int32) (i11_27 : Int32) (i14_29 : Int32) (i15_30 : Int32) (i17_31 : Int32) (a27_33 : Nat → Int32) (self_J_23 : Int32 → Int32 → Int32 → Int32 → Int32 → Int32 → (Nat → Int32) → Int32 × Int32 × Int32 × Int32 × Int32 × (Nat → Int32)) : Int32 × Int32 × Int32 × Int32 × Int32 × (Nat → Int32) :=
  let v_81 : Int32 := (F_m12_isGood i11_27)
  if v_81.toInt = 0 then (f_m12_piece_b_87 i9_26 i11_27 i14_29 i15_30 i17_31 a27_33) else (f_m12_piece_b_95 i10 a1 i9_26 i11_27 i14_29 i15_30 i17_31 a27_33 self_J_23)
noncomputable def f_m12_piece_J_23 (i10 : Int32) (a1 : Nat → Int32) (x_24 : Int32) (i9_26 : Int32) (i11_27 : Int32) (i14_29 : Int32) (i15_30 : Int32) (i17_31 : Int32) (a27_33 : Nat → Int32) (self_J_23 : Int32 → Int32 → Int32 → Int32 → Int32 → Int32 → (Nat → Int32) → Int32 × Int32 × Int32 × Int32 × Int32 × (Nat → Int32)) : Int32 × Int32 × Int32 × Int32 × Int32 × (Nat → Int32) :=
  if x_24.toInt = 0 then (f_m12_piece_b_49 i9_26 i11_27 i14_29 i15_30 i17_31 a27_33) else (f_m12_piece_b_80 i10 a1 i9_26 i11_27 i14_29 i15_30 i17_31 a27_33 self_J_23)
noncomputable def f_m12_piece_j23 (i10 : Int32) (a1 : Nat → Int32) (n : Nat) : Int32 → Int32 → Int32 → Int32 → Int32 → Int32 → (Nat → Int32) → Int32 × Int32 × Int32 × Int32 × Int32 × (Nat → Int32) :=
  Nat.rec (motive := fun _ => Int32 → Int32 → Int32 → Int32 → Int32 → Int32 → (Nat → Int32) → Int32 × Int32 × Int32 × Int32 × Int32 × (Nat → Int32)) (fun _ _ _ _ _ _ _ => (0, 0, 0, 0, 0, (fun _ => 0))) (fun _ sq_ x_24 i9_26 i11_27 i14_29 i15_30 i17_31 a27_33 => f_m12_piece_J_23 i10 a1 x_24 i9_26 i11_27 i14_29 i15_30 i17_31 a27_33 sq_) n
noncomputable def f_m12_piece_b_22 (i10 : Int32) (a1 : Nat → Int32) (i9_2 : Int32) (i11_3 : Int32) (i14_4 : Int32) (i15_5 : Int32) (a27_6 : Nat → Int32) : Int32 × Int32 × Int32 × Int32 × Int32 × (Nat → Int32) :=
  f_m12_piece_j23 i10 a1 2894000 ((1 : Int32)) i9_2 i11_3 i14_4 i15_5 ((0 : Int32)) a27_6
noncomputable def f_m12_piece_b_198 (i10 : Int32) (a1 : Nat → Int32) (i9_2 : Int32) (i11_3 : Int32) (i14_4 : Int32) (i15_5 : Int32) (a27_6 : Nat → Int32) (self_J_1 : Int32 → Int32 → Int32 → Int32 → (Nat → Int32) → Int32 × Int32 × Int32 × Int32 × Int32 × (Nat → Int32)) : Int32 × Int32 × Int32 × Int32 × Int32 × (Nat → Int32) :=
  let i9_202 : Int32 := (F_m12_opens i9_2 i10 i11_3 i14_4 i15_5 a1 a27_6).1
  let i11_203 : Int32 := (F_m12_opens i9_2 i10 i11_3 i14_4 i15_5 a1 a27_6).2.1
  let i14_204 : Int32 := (F_m12_opens i9_2 i10 i11_3 i14_4 i15_5 a1 a27_6).2.2.1
  let i15_205 : Int32 := (F_m12_opens i9_2 i10 i11_3 i14_4 i15_5 a1 a27_6).2.2.2.1
  let a27_206 : Nat → Int32 := (F_m12_opens i9_2 i10 i11_3 i14_4 i15_5 a1 a27_6).2.2.2.2
  self_J_1 i9_202 i11_203 i14_204 i15_205 a27_206
noncomputable def f_m12_piece_b_261 (i9_231 : Int32) (i11_232 : Int32) (i14_234 : Int32) (i15_235 : Int32) (i17_236 : Int32) (a27_238 : Nat → Int32) : Int32 × Int32 × Int32 × Int32 × Int32 × (Nat → Int32) :=
  (i9_231, i11_232, i14_234, i15_235, i17_236, a27_238)
noncomputable def f_m12_piece_b_262 (i9_231 : Int32) (i11_232 : Int32) (i14_234 : Int32) (i15_235 : Int32) (i17_236 : Int32) (a27_238 : Nat → Int32) : Int32 × Int32 × Int32 × Int32 × Int32 × (Nat → Int32) :=
  let i14_267 : Int32 := (F_m12_ends i14_234 i15_235 a27_238).1
  let i15_268 : Int32 := (F_m12_ends i14_234 i15_235 a27_238).2
  (i9_231, i11_232, i14_267, i15_268, i17_236, a27_238)
noncomputable def f_m12_piece_b_254 (i9_231 : Int32) (i11_232 : Int32) (i14_234 : Int32) (i15_235 : Int32) (i17_236 : Int32) (a27_238 : Nat → Int32) : Int32 × Int32 × Int32 × Int32 × Int32 × (Nat → Int32) :=
  let v_255 : Int32 := (F_m12_isGood i11_232)
  if v_255.toInt = 0 then (f_m12_piece_b_261 i9_231 i11_232 i14_234 i15_235 i17_236 a27_238) else (f_m12_piece_b_262 i9_231 i11_232 i14_234 i15_235 i17_236 a27_238)
noncomputable def f_m12_piece_b_299 (i9_231 : Int32) (i11_232 : Int32) (i14_234 : Int32) (i15_235 : Int32) (i17_236 : Int32) (a27_238 : Nat → Int32) : Int32 × Int32 × Int32 × Int32 × Int32 × (Nat → Int32) :=
  (i9_231, i11_232, i14_234, i15_235, i17_236, a27_238)
noncomputable def f_m12_piece_b_292 (i9_231 : Int32) (i11_232 : Int32) (i14_234 : Int32) (i15_235 : Int32) (i17_236 : Int32) (a27_238 : Nat → Int32) : Int32 × Int32 × Int32 × Int32 × Int32 × (Nat → Int32) :=
  (f_m12_piece_b_299 i9_231 i11_232 i14_234 i15_235 i17_236 a27_238)
noncomputable def f_m12_piece_b_329 (self_J_228 : Int32 → Int32 → Int32 → Int32 → Int32 → Int32 → (Nat → Int32) → Int32 × Int32 × Int32 × Int32 × Int32 × (Nat → Int32)) (i9_302 : Int32) (i11_303 : Int32) (i14_305 : Int32) (i15_306 : Int32) (a27_308 : Nat → Int32) : Int32 × Int32 × Int32 × Int32 × Int32 × (Nat → Int32) :=
  self_J_228 ((0 : Int32)) i9_302 i11_303 i14_305 i15_306 ((0 : Int32)) a27_308
noncomputable def f_m12_piece_b_364 (self_J_228 : Int32 → Int32 → Int32 → Int32 → Int32 → Int32 → (Nat → Int32) → Int32 × Int32 × Int32 × Int32 × Int32 × (Nat → Int32)) (i9_334 : Int32) (i11_335 : Int32) (i14_337 : Int32) (i15_338 : Int32) (i17_339 : Int32) (a27_341 : Nat → Int32) : Int32 × Int32 × Int32 × Int32 × Int32 × (Nat → Int32) :=
  self_J_228 ((0 : Int32)) i9_334 i11_335 i14_337 i15_338 i17_339 a27_341
noncomputable def f_m12_piece_b_365 (self_J_228 : Int32 → Int32 → Int32 → Int32 → Int32 → Int32 → (Nat → Int32) → Int32 × Int32 × Int32 × Int32 × Int32 × (Nat → Int32)) (i9_334 : Int32) (i11_335 : Int32) (i14_337 : Int32) (i15_338 : Int32) (i17_339 : Int32) (a27_341 : Nat → Int32) : Int32 × Int32 × Int32 × Int32 × Int32 × (Nat → Int32) :=
  self_J_228 ((1 : Int32)) i9_334 i11_335 i14_337 i15_338 i17_339 a27_341
noncomputable def f_m12_piece_b_330 (i10 : Int32) (a1 : Nat → Int32) (self_J_228 : Int32 → Int32 → Int32 → Int32 → Int32 → Int32 → (Nat → Int32) → Int32 × Int32 × Int32 × Int32 × Int32 × (Nat → Int32)) (i9_302 : Int32) (i11_303 : Int32) (i14_305 : Int32) (i15_306 : Int32) (a27_308 : Nat → Int32) : Int32 × Int32 × Int32 × Int32 × Int32 × (Nat → Int32) :=
  let v_331 : Int32 := (F_m12_goesOn i9_302 i10 i11_303 i14_305 i15_306 (0 : Int32) a1 a27_308).1
  let i9_334 : Int32 := (F_m12_goesOn i9_302 i10 i11_303 i14_305 i15_306 (0 : Int32) a1 a27_308).2.1
  let i11_335 : Int32 := (F_m12_goesOn i9_302 i10 i11_303 i14_305 i15_306 (0 : Int32) a1 a27_308).2.2.1
  let i14_337 : Int32 := (F_m12_goesOn i9_302 i10 i11_303 i14_305 i15_306 (0 : Int32) a1 a27_308).2.2.2.1
  let i15_338 : Int32 := (F_m12_goesOn i9_302 i10 i11_303 i14_305 i15_306 (0 : Int32) a1 a27_308).2.2.2.2.1
  let i17_339 : Int32 := (F_m12_goesOn i9_302 i10 i11_303 i14_305 i15_306 (0 : Int32) a1 a27_308).2.2.2.2.2.1
  let a27_341 : Nat → Int32 := (F_m12_goesOn i9_302 i10 i11_303 i14_305 i15_306 (0 : Int32) a1 a27_308).2.2.2.2.2.2
  if v_331.toInt = 0 then (f_m12_piece_b_364 self_J_228 i9_334 i11_335 i14_337 i15_338 i17_339 a27_341) else (f_m12_piece_b_365 self_J_228 i9_334 i11_335 i14_337 i15_338 i17_339 a27_341)
