noncomputable def f_x8_isFull_b_2  : Int32 :=
  (0 : Int32)
noncomputable def f_x8_isFull_b_4  : Int32 :=
  (1 : Int32)
noncomputable def F_x8_isFull (i10 : Int32) : Int32 :=
  if i10.toInt < 200 then f_x8_isFull_b_2 else f_x8_isFull_b_4
noncomputable def f_x11_tapeHasSlots_b_5  : Int32 :=
  (1 : Int32)
noncomputable def f_x11_tapeHasSlots_b_19  : Int32 :=
  (0 : Int32)
noncomputable def f_x11_tapeHasSlots_b_23 (x_2 : Int32) (self_J_1 : Int32 → Int32) : Int32 :=
  let z_24 : Int32 := x_2 + Int32.ofInt 1
  self_J_1 z_24
noncomputable def f_x11_tapeHasSlots_b_27 (x_2 : Int32) (self_J_1 : Int32 → Int32) : Int32 :=
  let z_28 : Int32 := x_2 + Int32.ofInt 1
  self_J_1 z_28
noncomputable def f_x11_tapeHasSlots_b_29  : Int32 :=
  (0 : Int32)
noncomputable def f_x11_tapeHasSlots_b_25 (u1 : Int32) (x_2 : Int32) (self_J_1 : Int32 → Int32) (z_10 : Int32) : Int32 :=
  if z_10.toInt < u1.toInt then (f_x11_tapeHasSlots_b_27 x_2 self_J_1) else f_x11_tapeHasSlots_b_29
noncomputable def f_x11_tapeHasSlots_b_21 (u1 : Int32) (x_2 : Int32) (self_J_1 : Int32 → Int32) (z_10 : Int32) : Int32 :=
  if z_10.toInt = 8 then (f_x11_tapeHasSlots_b_23 x_2 self_J_1) else (f_x11_tapeHasSlots_b_25 u1 x_2 self_J_1 z_10)
noncomputable def f_x11_tapeHasSlots_b_7 (u1 : Int32) (i2 : Int32) (a1 : Nat → Int32) (x_2 : Int32) (self_J_1 : Int32 → Int32) : Int32 :=
  let z_8 : Int32 := (2 : Int32) * x_2
  let z_9 : Int32 := z_8 + (1 : Int32)
  let z_10 : Int32 := a1 z_9.toNatClampNeg
  let z_11 : Int32 := (2 : Int32) * x_2
  let z_12 : Int32 := a1 z_11.toNatClampNeg
  let v_13 : Int32 := (F_x10_has z_12 i2)
  if v_13.toInt = 0 then f_x11_tapeHasSlots_b_19 else (f_x11_tapeHasSlots_b_21 u1 x_2 self_J_1 z_10)
noncomputable def f_x11_tapeHasSlots_J_1 (u0 : Int32) (u1 : Int32) (i2 : Int32) (a1 : Nat → Int32) (x_2 : Int32) (self_J_1 : Int32 → Int32) : Int32 :=
  if x_2.toInt ≥ u0.toInt then f_x11_tapeHasSlots_b_5 else (f_x11_tapeHasSlots_b_7 u1 i2 a1 x_2 self_J_1)
noncomputable def f_x11_tapeHasSlots_j1 (u0 : Int32) (u1 : Int32) (i2 : Int32) (a1 : Nat → Int32) (n : Nat) : Int32 → Int32 :=
  Nat.rec (motive := fun _ => Int32 → Int32) (fun _ => 0) (fun _ sq_ x_2 => f_x11_tapeHasSlots_J_1 u0 u1 i2 a1 x_2 sq_) n
noncomputable def F_x11_tapeHasSlots (u0 : Int32) (u1 : Int32) (i2 : Int32) (a1 : Nat → Int32) : Int32 :=
  f_x11_tapeHasSlots_j1 u0 u1 i2 a1 13 ((0 : Int32))
noncomputable def f_x8_enter_b_7 (i10 : Int32) : Int32 × Int32 :=
  let z_13 : Int32 := i10 + (1 : Int32)
  let z_14 : Int32 := z_13 - (1 : Int32)
  (z_14, z_13)
noncomputable def F_x8_enter (i10 : Int32) : Int32 × Int32 :=
  (f_x8_enter_b_7 i10)
noncomputable def f_x11_render_b_7 (i0 : Int32) (i10 : Int32) (i17 : Int32) (i18 : Int32) (i19 : Int32) (i20 : Int32) (i21 : Int32) (i22 : Int32) (i23 : Int32) (i24 : Int32) : Int32 × Int32 × Int32 × Int32 × Int32 × Int32 × Int32 × Int32 × Int32 × Int32 × Int32 :=
  ((-1 : Int32), i0, i10, i17, i18, i19, i20, i21, i22, i23, i24)
noncomputable def f_x11_render_b_16 (i0 : Int32) (i10 : Int32) (i17 : Int32) (i18 : Int32) (i19 : Int32) (i20 : Int32) (i21 : Int32) (i22 : Int32) (i23 : Int32) (i24 : Int32) : Int32 × Int32 × Int32 × Int32 × Int32 × Int32 × Int32 × Int32 × Int32 × Int32 × Int32 :=
  ((-1 : Int32), i0, i10, i17, i18, i19, i20, i21, i22, i23, i24)
noncomputable def f_x11_render_b_25 (i0 : Int32) (i10 : Int32) (i17 : Int32) (i18 : Int32) (i19 : Int32) (i20 : Int32) (i21 : Int32) (i22 : Int32) (i23 : Int32) (i24 : Int32) : Int32 × Int32 × Int32 × Int32 × Int32 × Int32 × Int32 × Int32 × Int32 × Int32 × Int32 :=
  ((-1 : Int32), i0, i10, i17, i18, i19, i20, i21, i22, i23, i24)
noncomputable def f_x11_render_b_36 (i0 : Int32) (i10 : Int32) (i17 : Int32) (i18 : Int32) (i19 : Int32) (i20 : Int32) (i21 : Int32) (i22 : Int32) (i23 : Int32) (i24 : Int32) : Int32 × Int32 × Int32 × Int32 × Int32 × Int32 × Int32 × Int32 × Int32 × Int32 × Int32 :=
  ((-1 : Int32), i0, i10, i17, i18, i19, i20, i21, i22, i23, i24)
noncomputable def f_x11_render_b_40 (i0 : Int32) (i10 : Int32) (i17 : Int32) (i18 : Int32) (i19 : Int32) (i20 : Int32) (i21 : Int32) (i22 : Int32) (i23 : Int32) (i24 : Int32) : Int32 × Int32 × Int32 × Int32 × Int32 × Int32 × Int32 × Int32 × Int32 × Int32 × Int32 :=
  ((-1 : Int32), i0, i10, i17, i18, i19, i20, i21, i22, i23, i24)
noncomputable def f_x11_render_b_83 (i0 : Int32) (i10 : Int32) (i17_49 : Int32) (i18_50 : Int32) (i19_51 : Int32) (i20_52 : Int32) (i21_53 : Int32) (i22_54 : Int32) (i23_55 : Int32) (i24_56 : Int32) : Int32 × Int32 × Int32 × Int32 × Int32 × Int32 × Int32 × Int32 × Int32 × Int32 × Int32 :=
  ((-1 : Int32), i0, i10, i17_49, i18_50, i19_51, i20_52, i21_53, i22_54, i23_55, i24_56)
noncomputable def f_x11_render_b_93 (i10 : Int32) (i17_49 : Int32) (i18_50 : Int32) (i19_51 : Int32) (i20_52 : Int32) (i21_53 : Int32) (i22_54 : Int32) (i23_55 : Int32) (i24_56 : Int32) : Int32 × Int32 × Int32 × Int32 × Int32 × Int32 × Int32 × Int32 × Int32 × Int32 × Int32 :=
  let v_116 : Int32 := (F_x8_enter i10).1
  let i10_119 : Int32 := (F_x8_enter i10).2
  (v_116, (0 : Int32), i10_119, i17_49, i18_50, i19_51, i20_52, i21_53, i22_54, i23_55, i24_56)
noncomputable def f_x11_render_b_134 (i0 : Int32) (i10 : Int32) (i17_49 : Int32) (i18_50 : Int32) (i19_51 : Int32) (i20_52 : Int32) (i21_53 : Int32) (i22_54 : Int32) (i23_55 : Int32) (i24_56 : Int32) : Int32 × Int32 × Int32 × Int32 × Int32 × Int32 × Int32 × Int32 × Int32 × Int32 × Int32 :=
  ((-1 : Int32), i0, i10, i17_49, i18_50, i19_51, i20_52, i21_53, i22_54, i23_55, i24_56)
noncomputable def f_x11_render_b_85 (u2 : Int32) (i0 : Int32) (i2 : Int32) (i10 : Int32) (a1 : Nat → Int32) (i17_49 : Int32) (i18_50 : Int32) (i19_51 : Int32) (i20_52 : Int32) (i21_53 : Int32) (i22_54 : Int32) (i23_55 : Int32) (i24_56 : Int32) (n_74 : Nat) : Int32 × Int32 × Int32 × Int32 × Int32 × Int32 × Int32 × Int32 × Int32 × Int32 × Int32 :=
  let z_86 : Int32 := Int32.ofNat n_74
  let v_87 : Int32 := (F_x11_tapeHasSlots u2 z_86 i2 a1)
  if v_87.toInt ≠ 0 then (f_x11_render_b_93 i10 i17_49 i18_50 i19_51 i20_52 i21_53 i22_54 i23_55 i24_56) else (f_x11_render_b_134 i0 i10 i17_49 i18_50 i19_51 i20_52 i21_53 i22_54 i23_55 i24_56)
noncomputable def f_x11_render_b_45 (u1 : Int32) (u2 : Int32) (i0 : Int32) (i1 : Int32) (i2 : Int32) (i3 : Int32) (i6 : Int32) (i9 : Int32) (i10 : Int32) (a1 : Nat → Int32) (a7 : Nat → Int32) (a8 : Nat → Int32) (a13 : Nat → Int32) (a18 : Nat → Int32) (a19 : Nat → Int32) (a20 : Nat → Int32) (a21 : Nat → Int32) (a22 : Nat → Int32) (a23 : Nat → Int32) (a25 : Nat → Int32) (r9n : Nat → Nat) (r9c : Nat → Nat → Int32) : Int32 × Int32 × Int32 × Int32 × Int32 × Int32 × Int32 × Int32 × Int32 × Int32 × Int32 :=
  let i17_49 : Int32 := (F_x6_aim u1 i1 i3 i6 i9 a7 a8 a13 a18 a19 a20 a21 a22 a23 a25 r9n r9c).1
  let i18_50 : Int32 := (F_x6_aim u1 i1 i3 i6 i9 a7 a8 a13 a18 a19 a20 a21 a22 a23 a25 r9n r9c).2.1
  let i19_51 : Int32 := (F_x6_aim u1 i1 i3 i6 i9 a7 a8 a13 a18 a19 a20 a21 a22 a23 a25 r9n r9c).2.2.1
  let i20_52 : Int32 := (F_x6_aim u1 i1 i3 i6 i9 a7 a8 a13 a18 a19 a20 a21 a22 a23 a25 r9n r9c).2.2.2.1
  let i21_53 : Int32 := (F_x6_aim u1 i1 i3 i6 i9 a7 a8 a13 a18 a19 a20 a21 a22 a23 a25 r9n r9c).2.2.2.2.1
  let i22_54 : Int32 := (F_x6_aim u1 i1 i3 i6 i9 a7 a8 a13 a18 a19 a20 a21 a22 a23 a25 r9n r9c).2.2.2.2.2.1
  let i23_55 : Int32 := (F_x6_aim u1 i1 i3 i6 i9 a7 a8 a13 a18 a19 a20 a21 a22 a23 a25 r9n r9c).2.2.2.2.2.2.1
  let i24_56 : Int32 := (F_x6_aim u1 i1 i3 i6 i9 a7 a8 a13 a18 a19 a20 a21 a22 a23 a25 r9n r9c).2.2.2.2.2.2.2
  let v_65 : Int32 := (F_x6_firstCopy i21_53)
  let n_74 : Nat := (F_x9_rowOf u1 v_65 i3 r9n r9c).1
  let z_81 : Int32 := Int32.ofNat n_74
  if z_81.toInt = 0 then (f_x11_render_b_83 i0 i10 i17_49 i18_50 i19_51 i20_52 i21_53 i22_54 i23_55 i24_56) else (f_x11_render_b_85 u2 i0 i2 i10 a1 i17_49 i18_50 i19_51 i20_52 i21_53 i22_54 i23_55 i24_56 n_74)
noncomputable def f_x11_render_b_136 (i0 : Int32) (i10 : Int32) (i17 : Int32) (i18 : Int32) (i19 : Int32) (i20 : Int32) (i21 : Int32) (i22 : Int32) (i23 : Int32) (i24 : Int32) : Int32 × Int32 × Int32 × Int32 × Int32 × Int32 × Int32 × Int32 × Int32 × Int32 × Int32 :=
  ((-1 : Int32), i0, i10, i17, i18, i19, i20, i21, i22, i23, i24)
noncomputable def f_x11_render_b_42 (u1 : Int32) (u2 : Int32) (i0 : Int32) (i1 : Int32) (i2 : Int32) (i3 : Int32) (i6 : Int32) (i9 : Int32) (i10 : Int32) (i17 : Int32) (i18 : Int32) (i19 : Int32) (i20 : Int32) (i21 : Int32) (i22 : Int32) (i23 : Int32) (i24 : Int32) (a1 : Nat → Int32) (a7 : Nat → Int32) (a8 : Nat → Int32) (a13 : Nat → Int32) (a18 : Nat → Int32) (a19 : Nat → Int32) (a20 : Nat → Int32) (a21 : Nat → Int32) (a22 : Nat → Int32) (a23 : Nat → Int32) (a25 : Nat → Int32) (r9n : Nat → Nat) (r9c : Nat → Nat → Int32) : Int32 × Int32 × Int32 × Int32 × Int32 × Int32 × Int32 × Int32 × Int32 × Int32 × Int32 :=
  let z_43 : Int32 := (2 : Int32) * u2
  if z_43.toInt ≤ i0.toInt then (f_x11_render_b_45 u1 u2 i0 i1 i2 i3 i6 i9 i10 a1 a7 a8 a13 a18 a19 a20 a21 a22 a23 a25 r9n r9c) else (f_x11_render_b_136 i0 i10 i17 i18 i19 i20 i21 i22 i23 i24)
noncomputable def f_x11_render_b_38 (u1 : Int32) (u2 : Int32) (i0 : Int32) (i1 : Int32) (i2 : Int32) (i3 : Int32) (i6 : Int32) (i9 : Int32) (i10 : Int32) (i17 : Int32) (i18 : Int32) (i19 : Int32) (i20 : Int32) (i21 : Int32) (i22 : Int32) (i23 : Int32) (i24 : Int32) (a1 : Nat → Int32) (a7 : Nat → Int32) (a8 : Nat → Int32) (a13 : Nat → Int32) (a18 : Nat → Int32) (a19 : Nat → Int32) (a20 : Nat → Int32) (a21 : Nat → Int32) (a22 : Nat → Int32) (a23 : Nat → Int32) (a25 : Nat → Int32) (r9n : Nat → Nat) (r9c : Nat → Nat → Int32) : Int32 × Int32 × Int32 × Int32 × Int32 × Int32 × Int32 × Int32 × Int32 × Int32 × Int32 :=
  if u2.toInt > 12 then (f_x11_render_b_40 i0 i10 i17 i18 i19 i20 i21 i22 i23 i24) else (f_x11_render_b_42 u1 u2 i0 i1 i2 i3 i6 i9 i10 i17 i18 i19 i20 i21 i22 i23 i24 a1 a7 a8 a13 a18 a19 a20 a21 a22 a23 a25 r9n r9c)
noncomputable def f_x11_render_b_34 (u1 : Int32) (u2 : Int32) (i0 : Int32) (i1 : Int32) (i2 : Int32) (i3 : Int32) (i6 : Int32) (i9 : Int32) (i10 : Int32) (i17 : Int32) (i18 : Int32) (i19 : Int32) (i20 : Int32) (i21 : Int32) (i22 : Int32) (i23 : Int32) (i24 : Int32) (a1 : Nat → Int32) (a7 : Nat → Int32) (a8 : Nat → Int32) (a13 : Nat → Int32) (a18 : Nat → Int32) (a19 : Nat → Int32) (a20 : Nat → Int32) (a21 : Nat → Int32) (a22 : Nat → Int32) (a23 : Nat → Int32) (a25 : Nat → Int32) (r9n : Nat → Nat) (r9c : Nat → Nat → Int32) : Int32 × Int32 × Int32 × Int32 × Int32 × Int32 × Int32 × Int32 × Int32 × Int32 × Int32 :=
  if u2.toInt < 1 then (f_x11_render_b_36 i0 i10 i17 i18 i19 i20 i21 i22 i23 i24) else (f_x11_render_b_38 u1 u2 i0 i1 i2 i3 i6 i9 i10 i17 i18 i19 i20 i21 i22 i23 i24 a1 a7 a8 a13 a18 a19 a20 a21 a22 a23 a25 r9n r9c)
noncomputable def f_x11_render_b_138 (i0 : Int32) (i10 : Int32) (i17 : Int32) (i18 : Int32) (i19 : Int32) (i20 : Int32) (i21 : Int32) (i22 : Int32) (i23 : Int32) (i24 : Int32) : Int32 × Int32 × Int32 × Int32 × Int32 × Int32 × Int32 × Int32 × Int32 × Int32 × Int32 :=
  ((-1 : Int32), i0, i10, i17, i18, i19, i20, i21, i22, i23, i24)
noncomputable def f_x11_render_b_27 (u1 : Int32) (u2 : Int32) (i0 : Int32) (i1 : Int32) (i2 : Int32) (i3 : Int32) (i6 : Int32) (i9 : Int32) (i10 : Int32) (i17 : Int32) (i18 : Int32) (i19 : Int32) (i20 : Int32) (i21 : Int32) (i22 : Int32) (i23 : Int32) (i24 : Int32) (a1 : Nat → Int32) (a7 : Nat → Int32) (a8 : Nat → Int32) (a13 : Nat → Int32) (a18 : Nat → Int32) (a19 : Nat → Int32) (a20 : Nat → Int32) (a21 : Nat → Int32) (a22 : Nat → Int32) (a23 : Nat → Int32) (a25 : Nat → Int32) (r9n : Nat → Nat) (r9c : Nat → Nat → Int32) : Int32 × Int32 × Int32 × Int32 × Int32 × Int32 × Int32 × Int32 × Int32 × Int32 × Int32 :=
  let v_28 : Int32 := (F_x8_isFull i10)
  if v_28.toInt = 0 then (f_x11_render_b_34 u1 u2 i0 i1 i2 i3 i6 i9 i10 i17 i18 i19 i20 i21 i22 i23 i24 a1 a7 a8 a13 a18 a19 a20 a21 a22 a23 a25 r9n r9c) else (f_x11_render_b_138 i0 i10 i17 i18 i19 i20 i21 i22 i23 i24)
noncomputable def f_x11_render_b_18 (u1 : Int32) (u2 : Int32) (i0 : Int32) (i1 : Int32) (i2 : Int32) (i3 : Int32) (i6 : Int32) (i9 : Int32) (i10 : Int32) (i17 : Int32) (i18 : Int32) (i19 : Int32) (i20 : Int32) (i21 : Int32) (i22 : Int32) (i23 : Int32) (i24 : Int32) (a1 : Nat → Int32) (a7 : Nat → Int32) (a8 : Nat → Int32) (a13 : Nat → Int32) (a18 : Nat → Int32) (a19 : Nat → Int32) (a20 : Nat → Int32) (a21 : Nat → Int32) (a22 : Nat → Int32) (a23 : Nat → Int32) (a25 : Nat → Int32) (r9n : Nat → Nat) (r9c : Nat → Nat → Int32) : Int32 × Int32 × Int32 × Int32 × Int32 × Int32 × Int32 × Int32 × Int32 × Int32 × Int32 :=
  let v_19 : Int32 := (F_x9_has u1 i3)
  if v_19.toInt = 0 then (f_x11_render_b_25 i0 i10 i17 i18 i19 i20 i21 i22 i23 i24) else (f_x11_render_b_27 u1 u2 i0 i1 i2 i3 i6 i9 i10 i17 i18 i19 i20 i21 i22 i23 i24 a1 a7 a8 a13 a18 a19 a20 a21 a22 a23 a25 r9n r9c)
noncomputable def f_x11_render_b_9 (u0 : Int32) (u1 : Int32) (u2 : Int32) (i0 : Int32) (i1 : Int32) (i2 : Int32) (i3 : Int32) (i6 : Int32) (i8 : Int32) (i9 : Int32) (i10 : Int32) (i17 : Int32) (i18 : Int32) (i19 : Int32) (i20 : Int32) (i21 : Int32) (i22 : Int32) (i23 : Int32) (i24 : Int32) (a1 : Nat → Int32) (a7 : Nat → Int32) (a8 : Nat → Int32) (a13 : Nat → Int32) (a18 : Nat → Int32) (a19 : Nat → Int32) (a20 : Nat → Int32) (a21 : Nat → Int32) (a22 : Nat → Int32) (a23 : Nat → Int32) (a25 : Nat → Int32) (r9n : Nat → Nat) (r9c : Nat → Nat → Int32) : Int32 × Int32 × Int32 × Int32 × Int32 × Int32 × Int32 × Int32 × Int32 × Int32 × Int32 :=
  let v_10 : Int32 := (F_x4_isVoid u0 i8)
  if v_10.toInt ≠ 0 then (f_x11_render_b_16 i0 i10 i17 i18 i19 i20 i21 i22 i23 i24) else (f_x11_render_b_18 u1 u2 i0 i1 i2 i3 i6 i9 i10 i17 i18 i19 i20 i21 i22 i23 i24 a1 a7 a8 a13 a18 a19 a20 a21 a22 a23 a25 r9n r9c)
noncomputable def F_x11_render (u0 : Int32) (u1 : Int32) (u2 : Int32) (i0 : Int32) (i1 : Int32) (i2 : Int32) (i3 : Int32) (i6 : Int32) (i7 : Int32) (i8 : Int32) (i9 : Int32) (i10 : Int32) (i17 : Int32) (i18 : Int32) (i19 : Int32) (i20 : Int32) (i21 : Int32) (i22 : Int32) (i23 : Int32) (i24 : Int32) (a1 : Nat → Int32) (a7 : Nat → Int32) (a8 : Nat → Int32) (a13 : Nat → Int32) (a18 : Nat → Int32) (a19 : Nat → Int32) (a20 : Nat → Int32) (a21 : Nat → Int32) (a22 : Nat → Int32) (a23 : Nat → Int32) (a25 : Nat → Int32) (r9n : Nat → Nat) (r9c : Nat → Nat → Int32) : Int32 × Int32 × Int32 × Int32 × Int32 × Int32 × Int32 × Int32 × Int32 × Int32 × Int32 :=
  let v_1 : Int32 := (F_x4_hasScholar u0 i7)
  if v_1.toInt = 0 then (f_x11_render_b_7 i0 i10 i17 i18 i19 i20 i21 i22 i23 i24) else (f_x11_render_b_9 u0 u1 u2 i0 i1 i2 i3 i6 i8 i9 i10 i17 i18 i19 i20 i21 i22 i23 i24 a1 a7 a8 a13 a18 a19 a20 a21 a22 a23 a25 r9n r9c)
noncomputable def F_x4_makeVoid (u0 : Int32) (i8 : Int32) : Int32 :=
  let z_1 : Int32 := (1 : Int32) <<< (u0 &&& 31)
  let z_2 : Int32 := i8 ||| z_1
  z_2
noncomputable def f_x11_voids_b_7 (i8 : Int32) : Int32 :=
  i8
noncomputable def f_x11_voids_b_16 (u0 : Int32) (i8 : Int32) : Int32 :=
  let i8_20 : Int32 := (F_x4_makeVoid u0 i8)
  i8_20
noncomputable def f_x11_voids_b_33 (i8 : Int32) : Int32 :=
  i8
noncomputable def f_x11_voids_b_9 (u0 : Int32) (i8 : Int32) : Int32 :=
  let v_10 : Int32 := (F_x4_isVoid u0 i8)
  if v_10.toInt = 0 then (f_x11_voids_b_16 u0 i8) else (f_x11_voids_b_33 i8)
noncomputable def F_x11_voids (u0 : Int32) (i7 : Int32) (i8 : Int32) : Int32 :=
  let v_1 : Int32 := (F_x4_hasScholar u0 i7)
  if v_1.toInt = 0 then (f_x11_voids_b_7 i8) else (f_x11_voids_b_9 u0 i8)
noncomputable def f_x11_isPastDay_b_2  : Int32 :=
  (0 : Int32)
noncomputable def f_x11_isPastDay_b_6  : Int32 :=
  (0 : Int32)
noncomputable def f_x11_isPastDay_b_8  : Int32 :=
  (1 : Int32)
noncomputable def f_x11_isPastDay_b_4 (u0 : Int32) (i1 : Int32) : Int32 :=
  if u0.toInt > i1.toInt then f_x11_isPastDay_b_6 else f_x11_isPastDay_b_8
noncomputable def F_x11_isPastDay (u0 : Int32) (i1 : Int32) : Int32 :=
  if u0.toInt < 0 then f_x11_isPastDay_b_2 else (f_x11_isPastDay_b_4 u0 i1)
noncomputable def F_x2_placeOf (u0 : Int32) : Int32 :=
  let z_1 : Int32 := u0 - u0 / (16 : Int32) * (16 : Int32)
  z_1
noncomputable def F_x9_size (i3 : Int32) : Int32 :=
  i3
noncomputable def f_x11_isSign_b_2  : Int32 :=
  (0 : Int32)
noncomputable def f_x11_isSign_b_6  : Int32 :=
  (0 : Int32)
noncomputable def f_x11_isSign_b_8  : Int32 :=
  (1 : Int32)
noncomputable def f_x11_isSign_b_4 (u0 : Int32) : Int32 :=
  if u0.toInt ≥ 40 then f_x11_isSign_b_6 else f_x11_isSign_b_8
noncomputable def F_x11_isSign (u0 : Int32) : Int32 :=
  if u0.toInt < 0 then f_x11_isSign_b_2 else (f_x11_isSign_b_4 u0)
noncomputable def f_x0_placeOf_b_5  : Int32 :=
  (-1 : Int32)
noncomputable def f_x0_placeOf_b_10 (x_2 : Int32) (self_J_1 : Int32 → Int32) : Int32 :=
  let z_11 : Int32 := x_2 + Int32.ofInt 1
  self_J_1 z_11
noncomputable def f_x0_placeOf_b_12 (x_2 : Int32) : Int32 :=
  x_2
noncomputable def f_x0_placeOf_b_7 (u0 : Int32) (a43 : Nat → Int32) (x_2 : Int32) (self_J_1 : Int32 → Int32) : Int32 :=
  let z_8 : Int32 := a43 x_2.toNatClampNeg
  if z_8.toInt ≠ u0.toInt then (f_x0_placeOf_b_10 x_2 self_J_1) else (f_x0_placeOf_b_12 x_2)
noncomputable def f_x0_placeOf_J_1 (u0 : Int32) (i30 : Int32) (a43 : Nat → Int32) (x_2 : Int32) (self_J_1 : Int32 → Int32) : Int32 :=
  if x_2.toInt ≥ i30.toInt then f_x0_placeOf_b_5 else (f_x0_placeOf_b_7 u0 a43 x_2 self_J_1)
noncomputable def f_x0_placeOf_j1 (u0 : Int32) (i30 : Int32) (a43 : Nat → Int32) (n : Nat) : Int32 → Int32 :=
  Nat.rec (motive := fun _ => Int32 → Int32) (fun _ => 0) (fun _ sq_ x_2 => f_x0_placeOf_J_1 u0 i30 a43 x_2 sq_) n
noncomputable def F_x0_placeOf (u0 : Int32) (i30 : Int32) (a43 : Nat → Int32) : Int32 :=
  f_x0_placeOf_j1 u0 i30 a43 7 ((0 : Int32))
noncomputable def f_x0_isOption_b_6  : Int32 :=
  (0 : Int32)
noncomputable def f_x0_isOption_b_13 (x_2 : Int32) (self_J_1 : Int32 → Int32) : Int32 :=
  let z_14 : Int32 := x_2 + Int32.ofInt 1
  self_J_1 z_14
noncomputable def f_x0_isOption_b_15  : Int32 :=
  (1 : Int32)
noncomputable def f_x0_isOption_b_8 (u0 : Int32) (u1 : Int32) (a45 : Nat → Int32) (x_2 : Int32) (self_J_1 : Int32 → Int32) : Int32 :=
  let z_9 : Int32 := u0 * (4 : Int32)
  let z_10 : Int32 := z_9 + x_2
  let z_11 : Int32 := a45 z_10.toNatClampNeg
  if z_11.toInt ≠ u1.toInt then (f_x0_isOption_b_13 x_2 self_J_1) else f_x0_isOption_b_15
noncomputable def f_x0_isOption_J_1 (u0 : Int32) (u1 : Int32) (a44 : Nat → Int32) (a45 : Nat → Int32) (x_2 : Int32) (self_J_1 : Int32 → Int32) : Int32 :=
  let z_4 : Int32 := a44 u0.toNatClampNeg
  if x_2.toInt ≥ z_4.toInt then f_x0_isOption_b_6 else (f_x0_isOption_b_8 u0 u1 a45 x_2 self_J_1)
noncomputable def f_x0_isOption_j1 (u0 : Int32) (u1 : Int32) (a44 : Nat → Int32) (a45 : Nat → Int32) (n : Nat) : Int32 → Int32 :=
  Nat.rec (motive := fun _ => Int32 → Int32) (fun _ => 0) (fun _ sq_ x_2 => f_x0_isOption_J_1 u0 u1 a44 a45 x_2 sq_) n
noncomputable def F_x0_isOption (u0 : Int32) (u1 : Int32) (a44 : Nat → Int32) (a45 : Nat → Int32) : Int32 :=
  f_x0_isOption_j1 u0 u1 a44 a45 5 ((0 : Int32))
noncomputable def f_x0_enter_b_16 (a44 : Nat → Int32) (a45 : Nat → Int32) (i30_9 : Int32) (a43_10 : Nat → Int32) : Int32 × Int32 × (Nat → Int32) × (Nat → Int32) × (Nat → Int32) :=
  ((0 : Int32), i30_9, a43_10, a44, a45)
noncomputable def f_x0_enter_b_25 (u1 : Int32) (a44 : Nat → Int32) (a45 : Nat → Int32) (x_7 : Int32) (i30_9 : Int32) (a43_10 : Nat → Int32) : Int32 × Int32 × (Nat → Int32) × (Nat → Int32) × (Nat → Int32) :=
  let z_26 : Int32 := x_7 * (4 : Int32)
  let z_27 : Int32 := a44 x_7.toNatClampNeg
  let z_28 : Int32 := z_26 + z_27
  let a45_29 : Nat → Int32 := upd a45 z_28.toNatClampNeg u1
  let z_30 : Int32 := a44 x_7.toNatClampNeg
  let z_31 : Int32 := z_30 + (1 : Int32)
  let a44_32 : Nat → Int32 := upd a44 x_7.toNatClampNeg z_31
  ((1 : Int32), i30_9, a43_10, a44_32, a45_29)
noncomputable def f_x0_enter_b_35 (a44 : Nat → Int32) (a45 : Nat → Int32) (i30_9 : Int32) (a43_10 : Nat → Int32) : Int32 × Int32 × (Nat → Int32) × (Nat → Int32) × (Nat → Int32) :=
  ((0 : Int32), i30_9, a43_10, a44, a45)
noncomputable def f_x0_enter_b_18 (u1 : Int32) (a44 : Nat → Int32) (a45 : Nat → Int32) (x_7 : Int32) (i30_9 : Int32) (a43_10 : Nat → Int32) : Int32 × Int32 × (Nat → Int32) × (Nat → Int32) × (Nat → Int32) :=
  let v_19 : Int32 := (F_x0_isOption x_7 u1 a44 a45)
  if v_19.toInt = 0 then (f_x0_enter_b_25 u1 a44 a45 x_7 i30_9 a43_10) else (f_x0_enter_b_35 a44 a45 i30_9 a43_10)
noncomputable def f_x0_enter_J_6 (u1 : Int32) (a44 : Nat → Int32) (a45 : Nat → Int32) (x_7 : Int32) (i30_9 : Int32) (a43_10 : Nat → Int32) : Int32 × Int32 × (Nat → Int32) × (Nat → Int32) × (Nat → Int32) :=
  let z_14 : Int32 := a44 x_7.toNatClampNeg
  if z_14.toInt ≥ 4 then (f_x0_enter_b_16 a44 a45 i30_9 a43_10) else (f_x0_enter_b_18 u1 a44 a45 x_7 i30_9 a43_10)
noncomputable def f_x0_enter_j6 (u1 : Int32) (a44 : Nat → Int32) (a45 : Nat → Int32) (x_7 : Int32) (i30_9 : Int32) (a43_10 : Nat → Int32) : Int32 × Int32 × (Nat → Int32) × (Nat → Int32) × (Nat → Int32) := f_x0_enter_J_6 u1 a44 a45 x_7 i30_9 a43_10
noncomputable def f_x0_enter_b_38 (u1 : Int32) (i30 : Int32) (a43 : Nat → Int32) (a44 : Nat → Int32) (a45 : Nat → Int32) (v_1 : Int32) : Int32 × Int32 × (Nat → Int32) × (Nat → Int32) × (Nat → Int32) :=
  f_x0_enter_j6 u1 a44 a45 v_1 i30 a43
noncomputable def f_x0_enter_b_41 (u0 : Int32) (u1 : Int32) (i30 : Int32) (a43 : Nat → Int32) (a44 : Nat → Int32) (a45 : Nat → Int32) : Int32 × Int32 × (Nat → Int32) × (Nat → Int32) × (Nat → Int32) :=
  let a43_42 : Nat → Int32 := upd a43 i30.toNatClampNeg u0
  let z_43 : Int32 := i30 + (1 : Int32)
  f_x0_enter_j6 u1 a44 a45 i30 z_43 a43_42
noncomputable def f_x0_enter_b_44 (i30 : Int32) (a43 : Nat → Int32) (a44 : Nat → Int32) (a45 : Nat → Int32) : Int32 × Int32 × (Nat → Int32) × (Nat → Int32) × (Nat → Int32) :=
  ((0 : Int32), i30, a43, a44, a45)
noncomputable def f_x0_enter_b_39 (u0 : Int32) (u1 : Int32) (i30 : Int32) (a43 : Nat → Int32) (a44 : Nat → Int32) (a45 : Nat → Int32) : Int32 × Int32 × (Nat → Int32) × (Nat → Int32) × (Nat → Int32) :=
  if i30.toInt < 6 then (f_x0_enter_b_41 u0 u1 i30 a43 a44 a45) else (f_x0_enter_b_44 i30 a43 a44 a45)
noncomputable def F_x0_enter (u0 : Int32) (u1 : Int32) (i30 : Int32) (a43 : Nat → Int32) (a44 : Nat → Int32) (a45 : Nat → Int32) : Int32 × Int32 × (Nat → Int32) × (Nat → Int32) × (Nat → Int32) :=
  let v_1 : Int32 := (F_x0_placeOf u0 i30 a43)
  if v_1.toInt ≠ (-1) then (f_x0_enter_b_38 u1 i30 a43 a44 a45 v_1) else (f_x0_enter_b_39 u0 u1 i30 a43 a44 a45)
noncomputable def f_x11_option_b_6 (i30 : Int32) (a43 : Nat → Int32) (a44 : Nat → Int32) (a45 : Nat → Int32) : Int32 × Int32 × (Nat → Int32) × (Nat → Int32) × (Nat → Int32) :=
  ((0 : Int32), i30, a43, a44, a45)
noncomputable def f_x11_option_b_15 (i30 : Int32) (a43 : Nat → Int32) (a44 : Nat → Int32) (a45 : Nat → Int32) : Int32 × Int32 × (Nat → Int32) × (Nat → Int32) × (Nat → Int32) :=
  ((0 : Int32), i30, a43, a44, a45)
noncomputable def f_x11_option_b_33 (i30_21 : Int32) (a43_22 : Nat → Int32) (a44_23 : Nat → Int32) (a45_24 : Nat → Int32) : Int32 × Int32 × (Nat → Int32) × (Nat → Int32) × (Nat → Int32) :=
  ((0 : Int32), i30_21, a43_22, a44_23, a45_24)
noncomputable def f_x11_option_b_35 (i30_21 : Int32) (a43_22 : Nat → Int32) (a44_23 : Nat → Int32) (a45_24 : Nat → Int32) : Int32 × Int32 × (Nat → Int32) × (Nat → Int32) × (Nat → Int32) :=
  ((1 : Int32), i30_21, a43_22, a44_23, a45_24)
noncomputable def f_x11_option_b_17 (u0 : Int32) (u1 : Int32) (i30 : Int32) (a43 : Nat → Int32) (a44 : Nat → Int32) (a45 : Nat → Int32) : Int32 × Int32 × (Nat → Int32) × (Nat → Int32) × (Nat → Int32) :=
  let v_18 : Int32 := (F_x0_enter u0 u1 i30 a43 a44 a45).1
  let i30_21 : Int32 := (F_x0_enter u0 u1 i30 a43 a44 a45).2.1
  let a43_22 : Nat → Int32 := (F_x0_enter u0 u1 i30 a43 a44 a45).2.2.1
  let a44_23 : Nat → Int32 := (F_x0_enter u0 u1 i30 a43 a44 a45).2.2.2.1
  let a45_24 : Nat → Int32 := (F_x0_enter u0 u1 i30 a43 a44 a45).2.2.2.2
  if v_18.toInt = 0 then (f_x11_option_b_33 i30_21 a43_22 a44_23 a45_24) else (f_x11_option_b_35 i30_21 a43_22 a44_23 a45_24)
noncomputable def f_x11_option_b_8 (u0 : Int32) (u1 : Int32) (i2 : Int32) (i30 : Int32) (a43 : Nat → Int32) (a44 : Nat → Int32) (a45 : Nat → Int32) : Int32 × Int32 × (Nat → Int32) × (Nat → Int32) × (Nat → Int32) :=
  let v_9 : Int32 := (F_x10_has u1 i2)
  if v_9.toInt = 0 then (f_x11_option_b_15 i30 a43 a44 a45) else (f_x11_option_b_17 u0 u1 i30 a43 a44 a45)
noncomputable def F_x11_option (u0 : Int32) (u1 : Int32) (i2 : Int32) (i30 : Int32) (a43 : Nat → Int32) (a44 : Nat → Int32) (a45 : Nat → Int32) : Int32 × Int32 × (Nat → Int32) × (Nat → Int32) × (Nat → Int32) :=
  let v_1 : Int32 := (F_x11_isSign u0)
  if v_1.toInt = 0 then (f_x11_option_b_6 i30 a43 a44 a45) else (f_x11_option_b_8 u0 u1 i2 i30 a43 a44 a45)
noncomputable def F_x4_companies (i6 : Int32) : Int32 :=
  i6
noncomputable def f_x11_check_b_2 (i0 : Int32) : Int32 :=
  i0
noncomputable def f_x11_check_b_6 (i0 : Int32) : Int32 :=
  i0
noncomputable def f_x11_check_b_11  : Int32 :=
  (0 : Int32)
noncomputable def f_x11_check_b_18 (i0 : Int32) : Int32 :=
  i0
noncomputable def f_x11_check_b_8 (u0 : Int32) (i0 : Int32) : Int32 :=
  let z_9 : Int32 := (2 : Int32) * u0
  if z_9.toInt ≤ i0.toInt then f_x11_check_b_11 else (f_x11_check_b_18 i0)
noncomputable def f_x11_check_b_4 (u0 : Int32) (i0 : Int32) : Int32 :=
  if u0.toInt > 60 then (f_x11_check_b_6 i0) else (f_x11_check_b_8 u0 i0)
noncomputable def F_x11_check (u0 : Int32) (i0 : Int32) : Int32 :=
  if u0.toInt < 0 then (f_x11_check_b_2 i0) else (f_x11_check_b_4 u0 i0)
noncomputable def F_x10_size (i2 : Int32) : Int32 :=
  i2
noncomputable def F_x4_scholars (i7 : Int32) : Int32 :=
  i7
noncomputable def F_x0_size (i30 : Int32) : Int32 :=
  i30
noncomputable def f_m12_has_b_3  : Int32 :=
  (0 : Int32)
noncomputable def f_m12_has_b_6  : Int32 :=
  (1 : Int32)
noncomputable def F_m12_has (p0 : Int32) (p1 : Int32) : Int32 :=
  if ((p0 >>> (p1 &&& 31)) &&& (1 : Int32)).toInt ≠ 1 then f_m12_has_b_3 else f_m12_has_b_6
noncomputable def f_m12_lies_b_2  : Int32 :=
  (0 : Int32)
noncomputable def f_m12_lies_b_6  : Int32 :=
  (0 : Int32)
noncomputable def f_m12_lies_b_8  : Int32 :=
  (1 : Int32)
noncomputable def f_m12_lies_b_4 (p0 : Int32) (p2 : Int32) : Int32 :=
  if p0.toInt > p2.toInt then f_m12_lies_b_6 else f_m12_lies_b_8
noncomputable def F_m12_lies (p0 : Int32) (p1 : Int32) (p2 : Int32) : Int32 :=
  if p0.toInt < p1.toInt then f_m12_lies_b_2 else (f_m12_lies_b_4 p0 p2)
noncomputable def F_m12_isDay (p0 : Int32) : Int32 :=
  let v_1 : Int32 := (F_m12_lies p0 (0 : Int32) (3999 : Int32))
  v_1
noncomputable def F_m12_isVerse (p0 : Int32) (i2 : Int32) : Int32 :=
  let z_1 : Int32 := i2 - (1 : Int32)
  let v_2 : Int32 := (F_m12_lies p0 (0 : Int32) z_1)
  v_2
noncomputable def F_m12_isWord (p0 : Int32) (i3 : Int32) : Int32 :=
  let z_1 : Int32 := i3 - (1 : Int32)
  let v_2 : Int32 := (F_m12_lies p0 (0 : Int32) z_1)
  v_2
noncomputable def F_m12_isRendering (p0 : Int32) (i7 : Int32) : Int32 :=
  let z_1 : Int32 := i7 - (1 : Int32)
  let v_2 : Int32 := (F_m12_lies p0 (0 : Int32) z_1)
  v_2
