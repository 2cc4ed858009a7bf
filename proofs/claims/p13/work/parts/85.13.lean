noncomputable def f_m12_piece_J_301 (i10 : Int32) (a1 : Nat → Int32) (self_J_228 : Int32 → Int32 → Int32 → Int32 → Int32 → Int32 → (Nat → Int32) → Int32 × Int32 × Int32 × Int32 × Int32 × (Nat → Int32)) (i9_302 : Int32) (i11_303 : Int32) (i14_305 : Int32) (i15_306 : Int32) (a27_308 : Nat → Int32) : Int32 × Int32 × Int32 × Int32 × Int32 × (Nat → Int32) :=
  let v_323 : Int32 := (F_m12_isGood i11_303)
  if v_323.toInt = 0 then (f_m12_piece_b_329 self_J_228 i9_302 i11_303 i14_305 i15_306 a27_308) else (f_m12_piece_b_330 i10 a1 self_J_228 i9_302 i11_303 i14_305 i15_306 a27_308)
noncomputable def f_m12_piece_j301 (i10 : Int32) (a1 : Nat → Int32) (self_J_228 : Int32 → Int32 → Int32 → Int32 → Int32 → Int32 → (Nat → Int32) → Int32 × Int32 × Int32 × Int32 × Int32 × (Nat → Int32)) (i9_302 : Int32) (i11_303 : Int32) (i14_305 : Int32) (i15_306 : Int32) (a27_308 : Nat → Int32) : Int32 × Int32 × Int32 × Int32 × Int32 × (Nat → Int32) := f_m12_piece_J_301 i10 a1 self_J_228 i9_302 i11_303 i14_305 i15_306 a27_308
noncomputable def f_m12_piece_b_367 (i10 : Int32) (a1 : Nat → Int32) (i9_231 : Int32) (i11_232 : Int32) (i14_234 : Int32) (i15_235 : Int32) (a27_238 : Nat → Int32) (self_J_228 : Int32 → Int32 → Int32 → Int32 → Int32 → Int32 → (Nat → Int32) → Int32 × Int32 × Int32 × Int32 × Int32 × (Nat → Int32)) : Int32 × Int32 × Int32 × Int32 × Int32 × (Nat → Int32) :=
  f_m12_piece_j301 i10 a1 self_J_228 i9_231 i11_232 i14_234 i15_235 a27_238
noncomputable def f_m12_piece_b_368 (i10 : Int32) (a1 : Nat → Int32) (i9_231 : Int32) (i11_232 : Int32) (i14_234 : Int32) (i15_235 : Int32) (a27_238 : Nat → Int32) (self_J_228 : Int32 → Int32 → Int32 → Int32 → Int32 → Int32 → (Nat → Int32) → Int32 × Int32 × Int32 × Int32 × Int32 × (Nat → Int32)) : Int32 × Int32 × Int32 × Int32 × Int32 × (Nat → Int32) :=
  let i9_372 : Int32 := (F_m12_factor i9_231 i10 i11_232 i14_234 i15_235 a1 a27_238).1
  let i11_373 : Int32 := (F_m12_factor i9_231 i10 i11_232 i14_234 i15_235 a1 a27_238).2.1
  let i14_375 : Int32 := (F_m12_factor i9_231 i10 i11_232 i14_234 i15_235 a1 a27_238).2.2.1
  let i15_376 : Int32 := (F_m12_factor i9_231 i10 i11_232 i14_234 i15_235 a1 a27_238).2.2.2.1
  let a27_378 : Nat → Int32 := (F_m12_factor i9_231 i10 i11_232 i14_234 i15_235 a1 a27_238).2.2.2.2
  f_m12_piece_j301 i10 a1 self_J_228 i9_372 i11_373 i14_375 i15_376 a27_378
noncomputable def f_m12_piece_b_300 (i10 : Int32) (a1 : Nat → Int32) (i9_231 : Int32) (i11_232 : Int32) (i14_234 : Int32) (i15_235 : Int32) (i17_236 : Int32) (a27_238 : Nat → Int32) (self_J_228 : Int32 → Int32 → Int32 → Int32 → Int32 → Int32 → (Nat → Int32) → Int32 × Int32 × Int32 × Int32 × Int32 × (Nat → Int32)) : Int32 × Int32 × Int32 × Int32 × Int32 × (Nat → Int32) :=
  if i17_236.toInt ≠ 0 then (f_m12_piece_b_367 i10 a1 i9_231 i11_232 i14_234 i15_235 a27_238 self_J_228) else (f_m12_piece_b_368 i10 a1 i9_231 i11_232 i14_234 i15_235 a27_238 self_J_228)
noncomputable def f_m12_piece_b_285 (i10 : Int32) (a1 : Nat → Int32) (i9_231 : Int32) (i11_232 : Int32) (i14_234 : Int32) (i15_235 : Int32) (i17_236 : Int32) (a27_238 : Nat → Int32) (self_J_228 : Int32 → Int32 → Int32 → Int32 → Int32 → Int32 → (Nat → Int32) → Int32 × Int32 × Int32 × Int32 × Int32 × (Nat → Int32)) : Int32 × Int32 × Int32 × Int32 × Int32 × (Nat → Int32) :=
  let v_286 : Int32 := (F_m12_isGood i11_232)
  if v_286.toInt = 0 then (f_m12_piece_b_292 i9_231 i11_232 i14_234 i15_235 i17_236 a27_238) else (f_m12_piece_b_300 i10 a1 i9_231 i11_232 i14_234 i15_235 i17_236 a27_238 self_J_228)
noncomputable def f_m12_piece_J_228 (i10 : Int32) (a1 : Nat → Int32) (x_229 : Int32) (i9_231 : Int32) (i11_232 : Int32) (i14_234 : Int32) (i15_235 : Int32) (i17_236 : Int32) (a27_238 : Nat → Int32) (self_J_228 : Int32 → Int32 → Int32 → Int32 → Int32 → Int32 → (Nat → Int32) → Int32 × Int32 × Int32 × Int32 × Int32 × (Nat → Int32)) : Int32 × Int32 × Int32 × Int32 × Int32 × (Nat → Int32) :=
  if x_229.toInt = 0 then (f_m12_piece_b_254 i9_231 i11_232 i14_234 i15_235 i17_236 a27_238) else (f_m12_piece_b_285 i10 a1 i9_231 i11_232 i14_234 i15_235 i17_236 a27_238 self_J_228)
noncomputable def f_m12_piece_j228 (i10 : Int32) (a1 : Nat → Int32) (n : Nat) : Int32 → Int32 → Int32 → Int32 → Int32 → Int32 → (Nat → Int32) → Int32 × Int32 × Int32 × Int32 × Int32 × (Nat → Int32) :=
  Nat.rec (motive := fun _ => Int32 → Int32 → Int32 → Int32 → Int32 → Int32 → (Nat → Int32) → Int32 × Int32 × Int32 × Int32 × Int32 × (Nat → Int32)) (fun _ _ _ _ _ _ _ => (0, 0, 0, 0, 0, (fun _ => 0))) (fun _ sq_ x_229 i9_231 i11_232 i14_234 i15_235 i17_236 a27_238 => f_m12_piece_J_228 i10 a1 x_229 i9_231 i11_232 i14_234 i15_235 i17_236 a27_238 sq_) n
noncomputable def f_m12_piece_b_227 (i10 : Int32) (a1 : Nat → Int32) (i9_2 : Int32) (i11_3 : Int32) (i14_4 : Int32) (i15_5 : Int32) (a27_6 : Nat → Int32) : Int32 × Int32 × Int32 × Int32 × Int32 × (Nat → Int32) :=
  f_m12_piece_j228 i10 a1 2894002 ((1 : Int32)) i9_2 i11_3 i14_4 i15_5 ((0 : Int32)) a27_6
noncomputable def f_m12_piece_b_396 (i10 : Int32) (a1 : Nat → Int32) (i9_2 : Int32) (i11_3 : Int32) (i14_4 : Int32) (i15_5 : Int32) (a27_6 : Nat → Int32) (self_J_1 : Int32 → Int32 → Int32 → Int32 → (Nat → Int32) → Int32 × Int32 × Int32 × Int32 × Int32 × (Nat → Int32)) : Int32 × Int32 × Int32 × Int32 × Int32 × (Nat → Int32) :=
  let i9_400 : Int32 := (F_m12_opens i9_2 i10 i11_3 i14_4 i15_5 a1 a27_6).1
  let i11_401 : Int32 := (F_m12_opens i9_2 i10 i11_3 i14_4 i15_5 a1 a27_6).2.1
  let i14_402 : Int32 := (F_m12_opens i9_2 i10 i11_3 i14_4 i15_5 a1 a27_6).2.2.1
  let i15_403 : Int32 := (F_m12_opens i9_2 i10 i11_3 i14_4 i15_5 a1 a27_6).2.2.2.1
  let a27_404 : Nat → Int32 := (F_m12_opens i9_2 i10 i11_3 i14_4 i15_5 a1 a27_6).2.2.2.2
  self_J_1 i9_400 i11_401 i14_402 i15_403 a27_404
noncomputable def f_m12_piece_b_220 (i10 : Int32) (a1 : Nat → Int32) (i9_2 : Int32) (i11_3 : Int32) (i14_4 : Int32) (i15_5 : Int32) (a27_6 : Nat → Int32) (self_J_1 : Int32 → Int32 → Int32 → Int32 → (Nat → Int32) → Int32 × Int32 × Int32 × Int32 × Int32 × (Nat → Int32)) : Int32 × Int32 × Int32 × Int32 × Int32 × (Nat → Int32) :=
  let v_221 : Int32 := (F_m12_here i9_2 i10 a1)
  if v_221.toInt ≠ 40 then (f_m12_piece_b_227 i10 a1 i9_2 i11_3 i14_4 i15_5 a27_6) else (f_m12_piece_b_396 i10 a1 i9_2 i11_3 i14_4 i15_5 a27_6 self_J_1)
noncomputable def f_m12_piece_b_191 (i10 : Int32) (a1 : Nat → Int32) (i9_2 : Int32) (i11_3 : Int32) (i14_4 : Int32) (i15_5 : Int32) (a27_6 : Nat → Int32) (self_J_1 : Int32 → Int32 → Int32 → Int32 → (Nat → Int32) → Int32 × Int32 × Int32 × Int32 × Int32 × (Nat → Int32)) : Int32 × Int32 × Int32 × Int32 × Int32 × (Nat → Int32) :=
  let v_192 : Int32 := (F_m12_here i9_2 i10 a1)
  if v_192.toInt = 33 then (f_m12_piece_b_198 i10 a1 i9_2 i11_3 i14_4 i15_5 a27_6 self_J_1) else (f_m12_piece_b_220 i10 a1 i9_2 i11_3 i14_4 i15_5 a27_6 self_J_1)
noncomputable def f_m12_piece_J_1 (i10 : Int32) (a1 : Nat → Int32) (i9_2 : Int32) (i11_3 : Int32) (i14_4 : Int32) (i15_5 : Int32) (a27_6 : Nat → Int32) (self_J_1 : Int32 → Int32 → Int32 → Int32 → (Nat → Int32) → Int32 × Int32 × Int32 × Int32 × Int32 × (Nat → Int32)) : Int32 × Int32 × Int32 × Int32 × Int32 × (Nat → Int32) :=
  let v_16 : Int32 := (F_m12_isGood i11_3)
  if v_16.toInt = 0 then (f_m12_piece_b_22 i10 a1 i9_2 i11_3 i14_4 i15_5 a27_6) else (f_m12_piece_b_191 i10 a1 i9_2 i11_3 i14_4 i15_5 a27_6 self_J_1)
noncomputable def f_m12_piece_j1 (i10 : Int32) (a1 : Nat → Int32) (n : Nat) : Int32 → Int32 → Int32 → Int32 → (Nat → Int32) → Int32 × Int32 × Int32 × Int32 × Int32 × (Nat → Int32) :=
  Nat.rec (motive := fun _ => Int32 → Int32 → Int32 → Int32 → (Nat → Int32) → Int32 × Int32 × Int32 × Int32 × Int32 × (Nat → Int32)) (fun _ _ _ _ _ => (0, 0, 0, 0, 0, (fun _ => 0))) (fun _ sq_ i9_2 i11_3 i14_4 i15_5 a27_6 => f_m12_piece_J_1 i10 a1 i9_2 i11_3 i14_4 i15_5 a27_6 sq_) n
noncomputable def F_m12_piece (i9 : Int32) (i10 : Int32) (i11 : Int32) (i14 : Int32) (i15 : Int32) (a1 : Nat → Int32) (a27 : Nat → Int32) : Int32 × Int32 × Int32 × Int32 × Int32 × (Nat → Int32) :=
  f_m12_piece_j1 i10 a1 180 i9 i11 i14 i15 a27
noncomputable def f_m12_goesBehind_b_12 (i9 : Int32) (i11 : Int32) (i14 : Int32) (i15 : Int32) (i16 : Int32) (a27 : Nat → Int32) (v_4 : Int32) : Int32 × Int32 × Int32 × Int32 × Int32 × Int32 × (Nat → Int32) :=
  let i15_17 : Int32 := (F_m12_joins (0 : Int32) i15 a27)
  let i9_37 : Int32 := (F_m12_puts v_4 i9 i15_17 a27).1
  let i15_38 : Int32 := (F_m12_puts v_4 i9 i15_17 a27).2.1
  let a27_39 : Nat → Int32 := (F_m12_puts v_4 i9 i15_17 a27).2.2
  ((1 : Int32), i9_37, i11, i14, i15_38, i16, a27_39)
noncomputable def f_m12_goesBehind_b_50 (i9 : Int32) (i11 : Int32) (i14 : Int32) (i15 : Int32) (i16 : Int32) (a27 : Nat → Int32) (v_4 : Int32) : Int32 × Int32 × Int32 × Int32 × Int32 × Int32 × (Nat → Int32) :=
  let i15_55 : Int32 := (F_m12_joins (1 : Int32) i15 a27)
  let i9_75 : Int32 := (F_m12_puts v_4 i9 i15_55 a27).1
  let i15_76 : Int32 := (F_m12_puts v_4 i9 i15_55 a27).2.1
  let a27_77 : Nat → Int32 := (F_m12_puts v_4 i9 i15_55 a27).2.2
  ((1 : Int32), i9_75, i11, i14, i15_76, i16, a27_77)
noncomputable def f_m12_goesBehind_J_9 (i9 : Int32) (i11 : Int32) (i14 : Int32) (i15 : Int32) (i16 : Int32) (a27 : Nat → Int32) (v_4 : Int32) : Int32 × Int32 × Int32 × Int32 × Int32 × Int32 × (Nat → Int32) :=
  if v_4.toInt ≠ 124 then (f_m12_goesBehind_b_12 i9 i11 i14 i15 i16 a27 v_4) else (f_m12_goesBehind_b_50 i9 i11 i14 i15 i16 a27 v_4)
noncomputable def f_m12_goesBehind_j9 (i9 : Int32) (i11 : Int32) (i14 : Int32) (i15 : Int32) (i16 : Int32) (a27 : Nat → Int32) (v_4 : Int32) : Int32 × Int32 × Int32 × Int32 × Int32 × Int32 × (Nat → Int32) := f_m12_goesBehind_J_9 i9 i11 i14 i15 i16 a27 v_4
noncomputable def f_m12_goesBehind_b_89 (i9 : Int32) (i11 : Int32) (i14 : Int32) (i15 : Int32) (i16 : Int32) (a27 : Nat → Int32) (v_4 : Int32) : Int32 × Int32 × Int32 × Int32 × Int32 × Int32 × (Nat → Int32) :=
  f_m12_goesBehind_j9 i9 i11 i14 i15 i16 a27 v_4
noncomputable def f_m12_goesBehind_b_126 (i11 : Int32) (a27 : Nat → Int32) (z_117 : Int32) (z_121 : Int32) (z_122 : Int32) : Int32 × Int32 × Int32 × Int32 × Int32 × Int32 × (Nat → Int32) :=
  let i14_131 : Int32 := (F_m12_ends z_121 z_117 a27).1
  let i15_132 : Int32 := (F_m12_ends z_121 z_117 a27).2
  ((0 : Int32), z_122, i11, i14_131, i15_132, (0 : Int32), a27)
noncomputable def f_m12_goesBehind_b_124 (i11 : Int32) (a27 : Nat → Int32) (z_117 : Int32) (z_121 : Int32) (z_122 : Int32) : Int32 × Int32 × Int32 × Int32 × Int32 × Int32 × (Nat → Int32) :=
  (f_m12_goesBehind_b_126 i11 a27 z_117 z_121 z_122)
noncomputable def f_m12_goesBehind_b_152 (i11 : Int32) (a27 : Nat → Int32) (z_117 : Int32) (z_121 : Int32) (z_122 : Int32) : Int32 × Int32 × Int32 × Int32 × Int32 × Int32 × (Nat → Int32) :=
  ((0 : Int32), z_122, i11, z_121, z_117, (1 : Int32), a27)
noncomputable def f_m12_goesBehind_b_150 (i11 : Int32) (a27 : Nat → Int32) (z_117 : Int32) (z_121 : Int32) (z_122 : Int32) : Int32 × Int32 × Int32 × Int32 × Int32 × Int32 × (Nat → Int32) :=
  (f_m12_goesBehind_b_152 i11 a27 z_117 z_121 z_122)
noncomputable def f_m12_goesBehind_b_94 (i9 : Int32) (i11 : Int32) (i14 : Int32) (i15 : Int32) (a27 : Nat → Int32) : Int32 × Int32 × Int32 × Int32 × Int32 × Int32 × (Nat → Int32) :=
  let i15_99 : Int32 := (F_m12_joins (1 : Int32) i15 a27)
  let z_117 : Int32 := i15_99 - (1 : Int32)
  let z_121 : Int32 := i14 - (1 : Int32)
  let z_122 : Int32 := i9 + (1 : Int32)
  if z_117.toInt ≠ 0 then (f_m12_goesBehind_b_124 i11 a27 z_117 z_121 z_122) else (f_m12_goesBehind_b_150 i11 a27 z_117 z_121 z_122)
noncomputable def f_m12_goesBehind_b_154 (i9 : Int32) (i11 : Int32) (i14 : Int32) (i15 : Int32) (i16 : Int32) (a27 : Nat → Int32) : Int32 × Int32 × Int32 × Int32 × Int32 × Int32 × (Nat → Int32) :=
  let i11_158 : Int32 := (F_m12_fails (1 : Int32) i9 i11)
  ((0 : Int32), i9, i11_158, i14, i15, i16, a27)
noncomputable def f_m12_goesBehind_b_92 (i9 : Int32) (i11 : Int32) (i14 : Int32) (i15 : Int32) (i16 : Int32) (a27 : Nat → Int32) (v_4 : Int32) : Int32 × Int32 × Int32 × Int32 × Int32 × Int32 × (Nat → Int32) :=
  if v_4.toInt = 41 then (f_m12_goesBehind_b_94 i9 i11 i14 i15 a27) else (f_m12_goesBehind_b_154 i9 i11 i14 i15 i16 a27)
noncomputable def f_m12_goesBehind_b_163 (i9 : Int32) (i11 : Int32) (i14 : Int32) (i15 : Int32) (i16 : Int32) (a27 : Nat → Int32) (v_4 : Int32) : Int32 × Int32 × Int32 × Int32 × Int32 × Int32 × (Nat → Int32) :=
  f_m12_goesBehind_j9 i9 i11 i14 i15 i16 a27 v_4
noncomputable def f_m12_goesBehind_b_90 (i9 : Int32) (i11 : Int32) (i14 : Int32) (i15 : Int32) (i16 : Int32) (a27 : Nat → Int32) (v_4 : Int32) : Int32 × Int32 × Int32 × Int32 × Int32 × Int32 × (Nat → Int32) :=
  if v_4.toInt ≠ 124 then (f_m12_goesBehind_b_92 i9 i11 i14 i15 i16 a27 v_4) else (f_m12_goesBehind_b_163 i9 i11 i14 i15 i16 a27 v_4)
noncomputable def F_m12_goesBehind (i9 : Int32) (i10 : Int32) (i11 : Int32) (i14 : Int32) (i15 : Int32) (i16 : Int32) (a1 : Nat → Int32) (a27 : Nat → Int32) : Int32 × Int32 × Int32 × Int32 × Int32 × Int32 × (Nat → Int32) :=
  let v_4 : Int32 := (F_m12_here i9 i10 a1)
  if v_4.toInt = 38 then (f_m12_goesBehind_b_89 i9 i11 i14 i15 i16 a27 v_4) else (f_m12_goesBehind_b_90 i9 i11 i14 i15 i16 a27 v_4)
noncomputable def f_m12_condition_b_58 (i9_28 : Int32) (i11_29 : Int32) (i14_31 : Int32) (i15_32 : Int32) (i16_33 : Int32) (i17_34 : Int32) (a27_36 : Nat → Int32) : Int32 × Int32 × Int32 × Int32 × Int32 × Int32 × (Nat → Int32) :=
  (i9_28, i11_29, i14_31, i15_32, i16_33, i17_34, a27_36)
noncomputable def f_m12_condition_b_61 (i9_28 : Int32) (i11_29 : Int32) (i14_31 : Int32) (i15_32 : Int32) (i16_33 : Int32) (i17_34 : Int32) (a27_36 : Nat → Int32) : Int32 × Int32 × Int32 × Int32 × Int32 × Int32 × (Nat → Int32) :=
  (i9_28, i11_29, i14_31, i15_32, i16_33, i17_34, a27_36)
noncomputable def f_m12_condition_b_71 (i10 : Int32) (a1 : Nat → Int32) (i9_28 : Int32) (i11_29 : Int32) (i14_31 : Int32) (i15_32 : Int32) (i16_33 : Int32) (i17_34 : Int32) (a27_36 : Nat → Int32) (self_J_25 : Int32 → Int32 → Int32 → Int32 → Int32 → Int32 → Int32 → (Nat → Int32) → Int32 × Int32 × Int32 × Int32 × Int32 × Int32 × (Nat → Int32)) : Int32 × Int32 × Int32 × Int32 × Int32 × Int32 × (Nat → Int32) :=
  let v_72 : Int32 := (F_m12_goesBehind i9_28 i10 i11_29 i14_31 i15_32 i16_33 a1 a27_36).1
  let i9_75 : Int32 := (F_m12_goesBehind i9_28 i10 i11_29 i14_31 i15_32 i16_33 a1 a27_36).2.1
  let i11_76 : Int32 := (F_m12_goesBehind i9_28 i10 i11_29 i14_31 i15_32 i16_33 a1 a27_36).2.2.1
  let i14_78 : Int32 := (F_m12_goesBehind i9_28 i10 i11_29 i14_31 i15_32 i16_33 a1 a27_36).2.2.2.1
  let i15_79 : Int32 := (F_m12_goesBehind i9_28 i10 i11_29 i14_31 i15_32 i16_33 a1 a27_36).2.2.2.2.1
  let i16_80 : Int32 := (F_m12_goesBehind i9_28 i10 i11_29 i14_31 i15_32 i16_33 a1 a27_36).2.2.2.2.2.1
  let a27_82 : Nat → Int32 := (F_m12_goesBehind i9_28 i10 i11_29 i14_31 i15_32 i16_33 a1 a27_36).2.2.2.2.2.2
  self_J_25 v_72 i9_75 i11_76 i14_78 i15_79 i16_80 i17_34 a27_82
noncomputable def f_m12_condition_b_64 (i10 : Int32) (a1 : Nat → Int32) (i9_28 : Int32) (i11_29 : Int32) (i14_31 : Int32) (i15_32 : Int32) (i16_33 : Int32) (i17_34 : Int32) (a27_36 : Nat → Int32) (self_J_25 : Int32 → Int32 → Int32 → Int32 → Int32 → Int32 → Int32 → (Nat → Int32) → Int32 × Int32 × Int32 × Int32 × Int32 × Int32 × (Nat → Int32)) : Int32 × Int32 × Int32 × Int32 × Int32 × Int32 × (Nat → Int32) :=
  (f_m12_condition_b_71 i10 a1 i9_28 i11_29 i14_31 i15_32 i16_33 i17_34 a27_36 self_J_25)
noncomputable def f_m12_condition_b_141 (x_26 : Int32) (i16_33 : Int32) (self_J_25 : Int32 → Int32 → Int32 → Int32 → Int32 → Int32 → Int32 → (Nat → Int32) → Int32 × Int32 × Int32 × Int32 × Int32 × Int32 × (Nat → Int32)) (i9_108 : Int32) (i11_109 : Int32) (i14_111 : Int32) (i15_112 : Int32) (i17_113 : Int32) (a27_115 : Nat → Int32) : Int32 × Int32 × Int32 × Int32 × Int32 × Int32 × (Nat → Int32) :=
  self_J_25 x_26 i9_108 i11_109 i14_111 i15_112 i16_33 i17_113 a27_115
noncomputable def f_m12_condition_b_142 (i10 : Int32) (a1 : Nat → Int32) (i16_33 : Int32) (self_J_25 : Int32 → Int32 → Int32 → Int32 → Int32 → Int32 → Int32 → (Nat → Int32) → Int32 × Int32 × Int32 × Int32 × Int32 × Int32 × (Nat → Int32)) (i9_108 : Int32) (i11_109 : Int32) (i14_111 : Int32) (i15_112 : Int32) (i17_113 : Int32) (a27_115 : Nat → Int32) : Int32 × Int32 × Int32 × Int32 × Int32 × Int32 × (Nat → Int32) :=
  let v_143 : Int32 := (F_m12_goesBehind i9_108 i10 i11_109 i14_111 i15_112 i16_33 a1 a27_115).1
  let i9_146 : Int32 := (F_m12_goesBehind i9_108 i10 i11_109 i14_111 i15_112 i16_33 a1 a27_115).2.1
  let i11_147 : Int32 := (F_m12_goesBehind i9_108 i10 i11_109 i14_111 i15_112 i16_33 a1 a27_115).2.2.1
  let i14_149 : Int32 := (F_m12_goesBehind i9_108 i10 i11_109 i14_111 i15_112 i16_33 a1 a27_115).2.2.2.1
  let i15_150 : Int32 := (F_m12_goesBehind i9_108 i10 i11_109 i14_111 i15_112 i16_33 a1 a27_115).2.2.2.2.1
  let i16_151 : Int32 := (F_m12_goesBehind i9_108 i10 i11_109 i14_111 i15_112 i16_33 a1 a27_115).2.2.2.2.2.1
  let a27_153 : Nat → Int32 := (F_m12_goesBehind i9_108 i10 i11_109 i14_111 i15_112 i16_33 a1 a27_115).2.2.2.2.2.2
  self_J_25 v_143 i9_146 i11_147 i14_149 i15_150 i16_151 i17_113 a27_153
noncomputable def f_m12_condition_b_104 (i10 : Int32) (a1 : Nat → Int32) (x_26 : Int32) (i9_28 : Int32) (i11_29 : Int32) (i14_31 : Int32) (i15_32 : Int32) (i16_33 : Int32) (a27_36 : Nat → Int32) (self_J_25 : Int32 → Int32 → Int32 → Int32 → Int32 → Int32 → Int32 → (Nat → Int32) → Int32 × Int32 × Int32 × Int32 × Int32 × Int32 × (Nat → Int32)) : Int32 × Int32 × Int32 × Int32 × Int32 × Int32 × (Nat → Int32) :=
  let i9_108 : Int32 := (F_m12_piece i9_28 i10 i11_29 i14_31 i15_32 a1 a27_36).1
  let i11_109 : Int32 := (F_m12_piece i9_28 i10 i11_29 i14_31 i15_32 a1 a27_36).2.1
  let i14_111 : Int32 := (F_m12_piece i9_28 i10 i11_29 i14_31 i15_32 a1 a27_36).2.2.1
  let i15_112 : Int32 := (F_m12_piece i9_28 i10 i11_29 i14_31 i15_32 a1 a27_36).2.2.2.1
  let i17_113 : Int32 := (F_m12_piece i9_28 i10 i11_29 i14_31 i15_32 a1 a27_36).2.2.2.2.1
  let a27_115 : Nat → Int32 := (F_m12_piece i9_28 i10 i11_29 i14_31 i15_32 a1 a27_36).2.2.2.2.2
  let v_135 : Int32 := (F_m12_isGood i11_109)
  if v_135.toInt = 0 then (f_m12_condition_b_141 x_26 i16_33 self_J_25 i9_108 i11_109 i14_111 i15_112 i17_113 a27_115) else (f_m12_condition_b_142 i10 a1 i16_33 self_J_25 i9_108 i11_109 i14_111 i15_112 i17_113 a27_115)
noncomputable def f_m12_condition_b_62 (i10 : Int32) (a1 : Nat → Int32) (x_26 : Int32) (i9_28 : Int32) (i11_29 : Int32) (i14_31 : Int32) (i15_32 : Int32) (i16_33 : Int32) (i17_34 : Int32) (a27_36 : Nat → Int32) (self_J_25 : Int32 → Int32 → Int32 → Int32 → Int32 → Int32 → Int32 → (Nat → Int32) → Int32 × Int32 × Int32 × Int32 × Int32 × Int32 × (Nat → Int32)) : Int32 × Int32 × Int32 × Int32 × Int32 × Int32 × (Nat → Int32) :=
  if x_26.toInt = 0 then (f_m12_condition_b_64 i10 a1 i9_28 i11_29 i14_31 i15_32 i16_33 i17_34 a27_36 self_J_25) else (f_m12_condition_b_104 i10 a1 x_26 i9_28 i11_29 i14_31 i15_32 i16_33 a27_36 self_J_25)
noncomputable def f_m12_condition_b_59 (i10 : Int32) (a1 : Nat → Int32) (x_26 : Int32) (i9_28 : Int32) (i11_29 : Int32) (i14_31 : Int32) (i15_32 : Int32) (i16_33 : Int32) (i17_34 : Int32) (a27_36 : Nat → Int32) (self_J_25 : Int32 → Int32 → Int32 → Int32 → Int32 → Int32 → Int32 → (Nat → Int32) → Int32 × Int32 × Int32 × Int32 × Int32 × Int32 × (Nat → Int32)) : Int32 × Int32 × Int32 × Int32 × Int32 × Int32 × (Nat → Int32) :=
  if i16_33.toInt ≠ 0 then (f_m12_condition_b_61 i9_28 i11_29 i14_31 i15_32 i16_33 i17_34 a27_36) else (f_m12_condition_b_62 i10 a1 x_26 i9_28 i11_29 i14_31 i15_32 i16_33 i17_34 a27_36 self_J_25)
noncomputable def f_m12_condition_J_25 (i10 : Int32) (a1 : Nat → Int32) (x_26 : Int32) (i9_28 : Int32) (i11_29 : Int32) (i14_31 : Int32) (i15_32 : Int32) (i16_33 : Int32) (i17_34 : Int32) (a27_36 : Nat → Int32) (self_J_25 : Int32 → Int32 → Int32 → Int32 → Int32 → Int32 → Int32 → (Nat → Int32) → Int32 × Int32 × Int32 × Int32 × Int32 × Int32 × (Nat → Int32)) : Int32 × Int32 × Int32 × Int32 × Int32 × Int32 × (Nat → Int32) :=
  let v_52 : Int32 := (F_m12_isGood i11_29)
  if v_52.toInt = 0 then (f_m12_condition_b_58 i9_28 i11_29 i14_31 i15_32 i16_33 i17_34 a27_36) else (f_m12_condition_b_59 i10 a1 x_26 i9_28 i11_29 i14_31 i15_32 i16_33 i17_34 a27_36 self_J_25)
noncomputable def f_m12_condition_j25 (i10 : Int32) (a1 : Nat → Int32) (n : Nat) : Int32 → Int32 → Int32 → Int32 → Int32 → Int32 → Int32 → (Nat → Int32) → Int32 × Int32 × Int32 × Int32 × Int32 × Int32 × (Nat → Int32) :=
  Nat.rec (motive := fun _ => Int32 → Int32 → Int32 → Int32 → Int32 → Int32 → Int32 → (Nat → Int32) → Int32 × Int32 × Int32 × Int32 × Int32 × Int32 × (Nat → Int32)) (fun _ _ _ _ _ _ _ _ => (0, 0, 0, 0, 0, 0, (fun _ => 0))) (fun _ sq_ x_26 i9_28 i11_29 i14_31 i15_32 i16_33 i17_34 a27_36 => f_m12_condition_J_25 i10 a1 x_26 i9_28 i11_29 i14_31 i15_32 i16_33 i17_34 a27_36 sq_) n
noncomputable def F_m12_condition (i9 : Int32) (i10 : Int32) (i11 : Int32) (i17 : Int32) (a1 : Nat → Int32) (a27 : Nat → Int32) : Int32 × Int32 × Int32 × Int32 × Int32 × Int32 × (Nat → Int32) :=
  let z_1 : Int32 := (0 : Int32)
  let i9_7 : Int32 := (F_m12_opens i9 i10 i11 (0 : Int32) z_1 a1 a27).1
  let i11_8 : Int32 := (F_m12_opens i9 i10 i11 (0 : Int32) z_1 a1 a27).2.1
  let i14_9 : Int32 := (F_m12_opens i9 i10 i11 (0 : Int32) z_1 a1 a27).2.2.1
  let i15_10 : Int32 := (F_m12_opens i9 i10 i11 (0 : Int32) z_1 a1 a27).2.2.2.1
  let a27_11 : Nat → Int32 := (F_m12_opens i9 i10 i11 (0 : Int32) z_1 a1 a27).2.2.2.2
  f_m12_condition_j25 i10 a1 1452001 ((1 : Int32)) i9_7 i11_8 i14_9 i15_10 ((0 : Int32)) i17 a27_11
noncomputable def f_m12_readsMust_b_80 (a22 : Nat → Int32) (a20_15 : Nat → Int32) (i11_45 : Int32) (a21_63 : Nat → Int32) (z_66 : Int32) : Int32 × Int32 × (Nat → Int32) × (Nat → Int32) × (Nat → Int32) :=
  (z_66, i11_45, a20_15, a21_63, a22)
noncomputable def f_m12_readsMust_b_73 (a22 : Nat → Int32) (a20_15 : Nat → Int32) (i11_45 : Int32) (a21_63 : Nat → Int32) (z_66 : Int32) : Int32 × Int32 × (Nat → Int32) × (Nat → Int32) × (Nat → Int32) :=
  (f_m12_readsMust_b_80 a22 a20_15 i11_45 a21_63 z_66)
noncomputable def f_m12_readsMust_b_100 (a22 : Nat → Int32) (a20_15 : Nat → Int32) (a21_63 : Nat → Int32) (i9_85 : Int32) (i11_86 : Int32) : Int32 × Int32 × (Nat → Int32) × (Nat → Int32) × (Nat → Int32) :=
  (i9_85, i11_86, a20_15, a21_63, a22)
noncomputable def f_m12_readsMust_b_101 (p0 : Int32) (i10 : Int32) (a1 : Nat → Int32) (a22 : Nat → Int32) (a20_15 : Nat → Int32) (a21_63 : Nat → Int32) (i9_85 : Int32) (i11_86 : Int32) : Int32 × Int32 × (Nat → Int32) × (Nat → Int32) × (Nat → Int32) :=
  let v_102 : Int32 := (F_m12_readsNumber (79 : Int32) i9_85 i10 i11_86 a1).1
  let i9_105 : Int32 := (F_m12_readsNumber (79 : Int32) i9_85 i10 i11_86 a1).2.1
  let i11_106 : Int32 := (F_m12_readsNumber (79 : Int32) i9_85 i10 i11_86 a1).2.2
  let a22_116 : Nat → Int32 := upd a22 p0.toNatClampNeg v_102
  (i9_105, i11_106, a20_15, a21_63, a22_116)
noncomputable def f_m12_readsMust_b_81 (p0 : Int32) (i10 : Int32) (a1 : Nat → Int32) (a22 : Nat → Int32) (a20_15 : Nat → Int32) (i11_45 : Int32) (a21_63 : Nat → Int32) (z_66 : Int32) : Int32 × Int32 × (Nat → Int32) × (Nat → Int32) × (Nat → Int32) :=
  let i9_85 : Int32 := (F_m12_must (61 : Int32) z_66 i10 i11_45 a1).1
  let i11_86 : Int32 := (F_m12_must (61 : Int32) z_66 i10 i11_45 a1).2
  let v_94 : Int32 := (F_m12_isGood i11_86)
  if v_94.toInt = 0 then (f_m12_readsMust_b_100 a22 a20_15 a21_63 i9_85 i11_86) else (f_m12_readsMust_b_101 p0 i10 a1 a22 a20_15 a21_63 i9_85 i11_86)
noncomputable def f_m12_readsMust_J_55 (p0 : Int32) (i10 : Int32) (a1 : Nat → Int32) (a21 : Nat → Int32) (a22 : Nat → Int32) (a20_15 : Nat → Int32) (i9_24 : Int32) (i11_45 : Int32) (y_56 : Int32) (y_58 : Int32) : Int32 × Int32 × (Nat → Int32) × (Nat → Int32) × (Nat → Int32) :=
  let a21_63 : Nat → Int32 := upd a21 y_58.toNatClampNeg y_56
  let z_66 : Int32 := i9_24 + (1 : Int32)
  let v_67 : Int32 := (F_m12_isGood i11_45)
  if v_67.toInt = 0 then (f_m12_readsMust_b_73 a22 a20_15 i11_45 a21_63 z_66) else (f_m12_readsMust_b_81 p0 i10 a1 a22 a20_15 i11_45 a21_63 z_66)
noncomputable def f_m12_readsMust_j55 (p0 : Int32) (i10 : Int32) (a1 : Nat → Int32) (a21 : Nat → Int32) (a22 : Nat → Int32) (a20_15 : Nat → Int32) (i9_24 : Int32) (i11_45 : Int32) (y_56 : Int32) (y_58 : Int32) : Int32 × Int32 × (Nat → Int32) × (Nat → Int32) × (Nat → Int32) := f_m12_readsMust_J_55 p0 i10 a1 a21 a22 a20_15 i9_24 i11_45 y_56 y_58
noncomputable def f_m12_readsMust_b_120 (p0 : Int32) (i10 : Int32) (a1 : Nat → Int32) (a21 : Nat → Int32) (a22 : Nat → Int32) (a20_15 : Nat → Int32) (i9_24 : Int32) (i11_45 : Int32) : Int32 × Int32 × (Nat → Int32) × (Nat → Int32) × (Nat → Int32) :=
  let v_121 : Int32 := (F_m12_here i9_24 i10 a1)
  let z_126 : Int32 := v_121 - (48 : Int32)
  f_m12_readsMust_j55 p0 i10 a1 a21 a22 a20_15 i9_24 i11_45 z_126 p0
noncomputable def f_m12_readsMust_b_127 (p0 : Int32) (i10 : Int32) (a1 : Nat → Int32) (a21 : Nat → Int32) (a22 : Nat → Int32) (a20_15 : Nat → Int32) (i9_24 : Int32) (i11_45 : Int32) : Int32 × Int32 × (Nat → Int32) × (Nat → Int32) × (Nat → Int32) :=
  f_m12_readsMust_j55 p0 i10 a1 a21 a22 a20_15 i9_24 i11_45 ((-1 : Int32)) p0
noncomputable def f_m12_readsMust_J_44 (p0 : Int32) (i10 : Int32) (a1 : Nat → Int32) (a21 : Nat → Int32) (a22 : Nat → Int32) (a20_15 : Nat → Int32) (i9_24 : Int32) (i11_45 : Int32) : Int32 × Int32 × (Nat → Int32) × (Nat → Int32) × (Nat → Int32) :=
  let v_50 : Int32 := (F_m12_here i9_24 i10 a1)
  if v_50.toInt ≠ 42 then (f_m12_readsMust_b_120 p0 i10 a1 a21 a22 a20_15 i9_24 i11_45) else (f_m12_readsMust_b_127 p0 i10 a1 a21 a22 a20_15 i9_24 i11_45)
noncomputable def f_m12_readsMust_j44 (p0 : Int32) (i10 : Int32) (a1 : Nat → Int32) (a21 : Nat → Int32) (a22 : Nat → Int32) (a20_15 : Nat → Int32) (i9_24 : Int32) (i11_45 : Int32) : Int32 × Int32 × (Nat → Int32) × (Nat → Int32) × (Nat → Int32) := f_m12_readsMust_J_44 p0 i10 a1 a21 a22 a20_15 i9_24 i11_45
noncomputable def f_m12_readsMust_b_129 (p0 : Int32) (i10 : Int32) (a1 : Nat → Int32) (a21 : Nat → Int32) (a22 : Nat → Int32) (a20_15 : Nat → Int32) (i9_24 : Int32) (i11_25 : Int32) : Int32 × Int32 × (Nat → Int32) × (Nat → Int32) × (Nat → Int32) :=
  f_m12_readsMust_j44 p0 i10 a1 a21 a22 a20_15 i9_24 i11_25
noncomputable def f_m12_readsMust_b_141 (p0 : Int32) (i10 : Int32) (a1 : Nat → Int32) (a21 : Nat → Int32) (a22 : Nat → Int32) (a20_15 : Nat → Int32) (i9_24 : Int32) (i11_25 : Int32) : Int32 × Int32 × (Nat → Int32) × (Nat → Int32) × (Nat → Int32) :=
  f_m12_readsMust_j44 p0 i10 a1 a21 a22 a20_15 i9_24 i11_25
