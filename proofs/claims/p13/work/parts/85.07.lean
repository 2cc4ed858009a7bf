noncomputable def f_x6_findCopy_j12 (i3 : Int32) (i17 : Int32) (r9n : Nat → Nat) (r9c : Nat → Nat → Int32) (v_8 : Int32) (n : Nat) : Int32 → Int32 → Int32 → Int32 × Int32 :=
  Nat.rec (motive := fun _ => Int32 → Int32 → Int32 → Int32 × Int32) (fun _ _ _ => (0, 0)) (fun _ sq_ x_13 i21_15 i22_16 => f_x6_findCopy_J_12 i3 i17 r9n r9c v_8 x_13 i21_15 i22_16 sq_) n
noncomputable def f_x6_findCopy_b_7 (i3 : Int32) (i17 : Int32) (a25 : Nat → Int32) (r9n : Nat → Nat) (r9c : Nat → Nat → Int32) (v_1 : Int32) : Int32 × Int32 :=
  let v_8 : Int32 := (F_x2_value v_1 a25)
  f_x6_findCopy_j12 i3 i17 r9n r9c v_8 7 ((4 : Int32)) ((-1 : Int32)) ((0 : Int32))
noncomputable def f_x6_findCopy_b_50 (i21_47 : Int32) (i22_48 : Int32) : Int32 × Int32 :=
  (i21_47, i22_48)
noncomputable def f_x6_findCopy_b_53 (i21_47 : Int32) (i22_48 : Int32) : Int32 × Int32 :=
  (i21_47, i22_48)
noncomputable def f_x6_findCopy_b_71 (x_45 : Int32) (i21_47 : Int32) (self_J_44 : Int32 → Int32 → Int32 → Int32 × Int32) (z_69 : Int32) : Int32 × Int32 :=
  let z_72 : Int32 := x_45 + Int32.ofInt (-2)
  self_J_44 z_72 i21_47 z_69
noncomputable def f_x6_findCopy_b_73 (x_45 : Int32) (self_J_44 : Int32 → Int32 → Int32 → Int32 × Int32) (z_56 : Int32) (z_69 : Int32) : Int32 × Int32 :=
  let z_74 : Int32 := x_45 + Int32.ofInt (-2)
  self_J_44 z_74 z_56 z_69
noncomputable def f_x6_findCopy_b_54 (i3 : Int32) (i17 : Int32) (r9n : Nat → Nat) (r9c : Nat → Nat → Int32) (x_45 : Int32) (i21_47 : Int32) (self_J_44 : Int32 → Int32 → Int32 → Int32 × Int32) : Int32 × Int32 :=
  let z_55 : Int32 := (6 : Int32) >>> (x_45 &&& 31)
  let z_56 : Int32 := z_55 &&& (3 : Int32)
  let n_62 : Nat := (F_x9_rowOf i17 z_56 i3 r9n r9c).1
  let z_69 : Int32 := Int32.ofNat n_62
  if z_69.toInt ≤ 0 then (f_x6_findCopy_b_71 x_45 i21_47 self_J_44 z_69) else (f_x6_findCopy_b_73 x_45 self_J_44 z_56 z_69)
noncomputable def f_x6_findCopy_b_51 (i3 : Int32) (i17 : Int32) (r9n : Nat → Nat) (r9c : Nat → Nat → Int32) (x_45 : Int32) (i21_47 : Int32) (i22_48 : Int32) (self_J_44 : Int32 → Int32 → Int32 → Int32 × Int32) : Int32 × Int32 :=
  if i21_47.toInt ≠ (-1) then (f_x6_findCopy_b_53 i21_47 i22_48) else (f_x6_findCopy_b_54 i3 i17 r9n r9c x_45 i21_47 self_J_44)
noncomputable def f_x6_findCopy_J_44 (i3 : Int32) (i17 : Int32) (r9n : Nat → Nat) (r9c : Nat → Nat → Int32) (x_45 : Int32) (i21_47 : Int32) (i22_48 : Int32) (self_J_44 : Int32 → Int32 → Int32 → Int32 × Int32) : Int32 × Int32 :=
  if x_45.toInt < 0 then (f_x6_findCopy_b_50 i21_47 i22_48) else (f_x6_findCopy_b_51 i3 i17 r9n r9c x_45 i21_47 i22_48 self_J_44)
noncomputable def f_x6_findCopy_j44 (i3 : Int32) (i17 : Int32) (r9n : Nat → Nat) (r9c : Nat → Nat → Int32) (n : Nat) : Int32 → Int32 → Int32 → Int32 × Int32 :=
  Nat.rec (motive := fun _ => Int32 → Int32 → Int32 → Int32 × Int32) (fun _ _ _ => (0, 0)) (fun _ sq_ x_45 i21_47 i22_48 => f_x6_findCopy_J_44 i3 i17 r9n r9c x_45 i21_47 i22_48 sq_) n
noncomputable def f_x6_findCopy_b_43 (i3 : Int32) (i17 : Int32) (r9n : Nat → Nat) (r9c : Nat → Nat → Int32) : Int32 × Int32 :=
  f_x6_findCopy_j44 i3 i17 r9n r9c 7 ((4 : Int32)) ((-1 : Int32)) ((0 : Int32))
noncomputable def F_x6_findCopy (i3 : Int32) (i9 : Int32) (i17 : Int32) (i20 : Int32) (a21 : Nat → Int32) (a22 : Nat → Int32) (a23 : Nat → Int32) (a25 : Nat → Int32) (r9n : Nat → Nat) (r9c : Nat → Nat → Int32) : Int32 × Int32 :=
  let v_1 : Int32 := (F_x6_lastInForce (107 : Int32) (0 : Int32) i9 i20 a21 a22 a23)
  if v_1.toInt ≠ (-1) then (f_x6_findCopy_b_7 i3 i17 a25 r9n r9c v_1) else (f_x6_findCopy_b_43 i3 i17 r9n r9c)
noncomputable def f_x6_aim_b_24 (u0 : Int32) (u1 : Int32) (i3 : Int32) (i9 : Int32) (a21 : Nat → Int32) (a22 : Nat → Int32) (a23 : Nat → Int32) (a25 : Nat → Int32) (r9n : Nat → Nat) (r9c : Nat → Nat → Int32) (v_1 : Int32) (v_5 : Int32) (v_9 : Int32) (i20_17 : Int32) : Int32 × Int32 × Int32 × Int32 × Int32 × Int32 × Int32 × Int32 :=
  let i21_28 : Int32 := (F_x6_findCopy i3 i9 u0 i20_17 a21 a22 a23 a25 r9n r9c).1
  let i22_29 : Int32 := (F_x6_findCopy i3 i9 u0 i20_17 a21 a22 a23 a25 r9n r9c).2
  (u0, u1, v_9, i20_17, i21_28, i22_29, v_1, v_5)
noncomputable def f_x6_aim_b_39 (x_15 : Int32) (i20_17 : Int32) (self_J_14 : Int32 → Int32 → Int32 × Int32 × Int32 × Int32 × Int32 × Int32 × Int32 × Int32) : Int32 × Int32 × Int32 × Int32 × Int32 × Int32 × Int32 × Int32 :=
  let z_40 : Int32 := x_15 + Int32.ofInt 1
  self_J_14 z_40 i20_17
noncomputable def f_x6_aim_b_41 (x_15 : Int32) (i20_17 : Int32) (self_J_14 : Int32 → Int32 → Int32 × Int32 × Int32 × Int32 × Int32 × Int32 × Int32 × Int32) : Int32 × Int32 × Int32 × Int32 × Int32 × Int32 × Int32 × Int32 :=
  let z_42 : Int32 := (1 : Int32) <<< (x_15 &&& 31)
  let z_43 : Int32 := i20_17 ||| z_42
  let z_44 : Int32 := x_15 + Int32.ofInt 1
  self_J_14 z_44 z_43
noncomputable def f_x6_aim_b_32 (u1 : Int32) (i9 : Int32) (a18 : Nat → Int32) (a19 : Nat → Int32) (a20 : Nat → Int32) (v_9 : Int32) (x_15 : Int32) (i20_17 : Int32) (self_J_14 : Int32 → Int32 → Int32 × Int32 × Int32 × Int32 × Int32 × Int32 × Int32 × Int32) : Int32 × Int32 × Int32 × Int32 × Int32 × Int32 × Int32 × Int32 :=
  let v_33 : Int32 := (F_x2_binds x_15 v_9 u1 i9 a18 a19 a20)
  if v_33.toInt = 0 then (f_x6_aim_b_39 x_15 i20_17 self_J_14) else (f_x6_aim_b_41 x_15 i20_17 self_J_14)
noncomputable def f_x6_aim_J_14 (u0 : Int32) (u1 : Int32) (i3 : Int32) (i9 : Int32) (a18 : Nat → Int32) (a19 : Nat → Int32) (a20 : Nat → Int32) (a21 : Nat → Int32) (a22 : Nat → Int32) (a23 : Nat → Int32) (a25 : Nat → Int32) (r9n : Nat → Nat) (r9c : Nat → Nat → Int32) (v_1 : Int32) (v_5 : Int32) (v_9 : Int32) (x_15 : Int32) (i20_17 : Int32) (self_J_14 : Int32 → Int32 → Int32 × Int32 × Int32 × Int32 × Int32 × Int32 × Int32 × Int32) : Int32 × Int32 × Int32 × Int32 × Int32 × Int32 × Int32 × Int32 :=
  let v_18 : Int32 := (F_x2_size i9)
  if x_15.toInt ≥ v_18.toInt then (f_x6_aim_b_24 u0 u1 i3 i9 a21 a22 a23 a25 r9n r9c v_1 v_5 v_9 i20_17) else (f_x6_aim_b_32 u1 i9 a18 a19 a20 v_9 x_15 i20_17 self_J_14)
noncomputable def f_x6_aim_j14 (u0 : Int32) (u1 : Int32) (i3 : Int32) (i9 : Int32) (a18 : Nat → Int32) (a19 : Nat → Int32) (a20 : Nat → Int32) (a21 : Nat → Int32) (a22 : Nat → Int32) (a23 : Nat → Int32) (a25 : Nat → Int32) (r9n : Nat → Nat) (r9c : Nat → Nat → Int32) (v_1 : Int32) (v_5 : Int32) (v_9 : Int32) (n : Nat) : Int32 → Int32 → Int32 × Int32 × Int32 × Int32 × Int32 × Int32 × Int32 × Int32 :=
  Nat.rec (motive := fun _ => Int32 → Int32 → Int32 × Int32 × Int32 × Int32 × Int32 × Int32 × Int32 × Int32) (fun _ _ => (0, 0, 0, 0, 0, 0, 0, 0)) (fun _ sq_ x_15 i20_17 => f_x6_aim_J_14 u0 u1 i3 i9 a18 a19 a20 a21 a22 a23 a25 r9n r9c v_1 v_5 v_9 x_15 i20_17 sq_) n
noncomputable def F_x6_aim (u0 : Int32) (u1 : Int32) (i3 : Int32) (i6 : Int32) (i9 : Int32) (a7 : Nat → Int32) (a8 : Nat → Int32) (a13 : Nat → Int32) (a18 : Nat → Int32) (a19 : Nat → Int32) (a20 : Nat → Int32) (a21 : Nat → Int32) (a22 : Nat → Int32) (a23 : Nat → Int32) (a25 : Nat → Int32) (r9n : Nat → Nat) (r9c : Nat → Nat → Int32) : Int32 × Int32 × Int32 × Int32 × Int32 × Int32 × Int32 × Int32 :=
  let v_1 : Int32 := (F_x9_bookOf u0 i3 a7)
  let v_5 : Int32 := (F_x9_measureOf u0 i3 a8)
  let v_9 : Int32 := (F_x4_companyOf v_1 i6 a13)
  f_x6_aim_j14 u0 u1 i3 i9 a18 a19 a20 a21 a22 a23 a25 r9n r9c v_1 v_5 v_9 21 ((0 : Int32)) ((0 : Int32))
noncomputable def f_x2_start_b_6  : Int32 :=
  (-1 : Int32)
noncomputable def f_x2_start_b_8 (u0 : Int32) (a26 : Nat → Int32) : Int32 :=
  let z_9 : Int32 := a26 u0.toNatClampNeg
  z_9
noncomputable def F_x2_start (u0 : Int32) (a26 : Nat → Int32) : Int32 :=
  let v_1 : Int32 := (F_x2_isNumber u0)
  if v_1.toInt = 0 then f_x2_start_b_6 else (f_x2_start_b_8 u0 a26)
noncomputable def F_x2_rulesOf (u0 : Int32) : Int32 :=
  let z_1 : Int32 := u0 / (16 : Int32)
  z_1
noncomputable def f_x6_hundredths_b_7 (a25 : Nat → Int32) (v_1 : Int32) : Int32 :=
  let v_8 : Int32 := (F_x2_value v_1 a25)
  v_8
noncomputable def f_x6_hundredths_b_13  : Int32 :=
  (50 : Int32)
noncomputable def F_x6_hundredths (u0 : Int32) (i9 : Int32) (i20 : Int32) (a21 : Nat → Int32) (a22 : Nat → Int32) (a23 : Nat → Int32) (a25 : Nat → Int32) : Int32 :=
  let v_1 : Int32 := (F_x6_lastInForce (118 : Int32) u0 i9 i20 a21 a22 a23)
  if v_1.toInt ≠ (-1) then (f_x6_hundredths_b_7 a25 v_1) else f_x6_hundredths_b_13
noncomputable def f_x6_restDays_b_7 (a25 : Nat → Int32) (v_1 : Int32) : Int32 :=
  let v_8 : Int32 := (F_x2_value v_1 a25)
  v_8
noncomputable def f_x6_restDays_b_13  : Int32 :=
  (0 : Int32)
noncomputable def F_x6_restDays (i9 : Int32) (i20 : Int32) (a21 : Nat → Int32) (a22 : Nat → Int32) (a23 : Nat → Int32) (a25 : Nat → Int32) : Int32 :=
  let v_1 : Int32 := (F_x6_lastInForce (111 : Int32) (0 : Int32) i9 i20 a21 a22 a23)
  if v_1.toInt ≠ (-1) then (f_x6_restDays_b_7 a25 v_1) else f_x6_restDays_b_13
noncomputable def F_x6_firstCopy (i21 : Int32) : Int32 :=
  i21
noncomputable def F_x6_sourceSize (i22 : Int32) : Int32 :=
  i22
noncomputable def F_x6_companyThere (i19 : Int32) : Int32 :=
  i19
noncomputable def f_x11_asks_b_7 (i17 : Int32) (i18 : Int32) (i19 : Int32) (i20 : Int32) (i21 : Int32) (i22 : Int32) (i23 : Int32) (i24 : Int32) : Int32 × Int32 × Int32 × Int32 × Int32 × Int32 × Int32 × Int32 × Int32 :=
  ((-1 : Int32), i17, i18, i19, i20, i21, i22, i23, i24)
noncomputable def f_x11_asks_b_36 (i17_19 : Int32) (i18_20 : Int32) (i19_21 : Int32) (i20_22 : Int32) (i21_23 : Int32) (i22_24 : Int32) (i23_25 : Int32) (i24_26 : Int32) : Int32 × Int32 × Int32 × Int32 × Int32 × Int32 × Int32 × Int32 × Int32 :=
  ((-1 : Int32), i17_19, i18_20, i19_21, i20_22, i21_23, i22_24, i23_25, i24_26)
noncomputable def f_x11_asks_b_38 (u2 : Int32) (i9 : Int32) (a21 : Nat → Int32) (a22 : Nat → Int32) (a23 : Nat → Int32) (a25 : Nat → Int32) (i17_19 : Int32) (i18_20 : Int32) (i19_21 : Int32) (i20_22 : Int32) (i21_23 : Int32) (i22_24 : Int32) (i23_25 : Int32) (i24_26 : Int32) : Int32 × Int32 × Int32 × Int32 × Int32 × Int32 × Int32 × Int32 × Int32 :=
  let v_39 : Int32 := (F_x6_hundredths u2 i9 i20_22 a21 a22 a23 a25)
  (v_39, i17_19, i18_20, i19_21, i20_22, i21_23, i22_24, i23_25, i24_26)
noncomputable def f_x11_asks_b_44 (u2 : Int32) (i9 : Int32) (a21 : Nat → Int32) (a22 : Nat → Int32) (a23 : Nat → Int32) (a25 : Nat → Int32) (i17_19 : Int32) (i18_20 : Int32) (i19_21 : Int32) (i20_22 : Int32) (i21_23 : Int32) (i22_24 : Int32) (i23_25 : Int32) (i24_26 : Int32) : Int32 × Int32 × Int32 × Int32 × Int32 × Int32 × Int32 × Int32 × Int32 :=
  let v_45 : Int32 := (F_x6_hundredths u2 i9 i20_22 a21 a22 a23 a25)
  (v_45, i17_19, i18_20, i19_21, i20_22, i21_23, i22_24, i23_25, i24_26)
noncomputable def f_x11_asks_b_50 (i9 : Int32) (a21 : Nat → Int32) (a22 : Nat → Int32) (a23 : Nat → Int32) (a25 : Nat → Int32) (i17_19 : Int32) (i18_20 : Int32) (i19_21 : Int32) (i20_22 : Int32) (i21_23 : Int32) (i22_24 : Int32) (i23_25 : Int32) (i24_26 : Int32) : Int32 × Int32 × Int32 × Int32 × Int32 × Int32 × Int32 × Int32 × Int32 :=
  let v_51 : Int32 := (F_x6_restDays i9 i20_22 a21 a22 a23 a25)
  (v_51, i17_19, i18_20, i19_21, i20_22, i21_23, i22_24, i23_25, i24_26)
noncomputable def f_x11_asks_b_56 (i17_19 : Int32) (i18_20 : Int32) (i19_21 : Int32) (i20_22 : Int32) (i21_23 : Int32) (i22_24 : Int32) (i23_25 : Int32) (i24_26 : Int32) : Int32 × Int32 × Int32 × Int32 × Int32 × Int32 × Int32 × Int32 × Int32 :=
  let v_57 : Int32 := (F_x6_firstCopy i21_23)
  (v_57, i17_19, i18_20, i19_21, i20_22, i21_23, i22_24, i23_25, i24_26)
noncomputable def f_x11_asks_b_62 (i17_19 : Int32) (i18_20 : Int32) (i19_21 : Int32) (i20_22 : Int32) (i21_23 : Int32) (i22_24 : Int32) (i23_25 : Int32) (i24_26 : Int32) : Int32 × Int32 × Int32 × Int32 × Int32 × Int32 × Int32 × Int32 × Int32 :=
  let v_63 : Int32 := (F_x6_sourceSize i22_24)
  (v_63, i17_19, i18_20, i19_21, i20_22, i21_23, i22_24, i23_25, i24_26)
noncomputable def f_x11_asks_b_68 (i17_19 : Int32) (i18_20 : Int32) (i19_21 : Int32) (i20_22 : Int32) (i21_23 : Int32) (i22_24 : Int32) (i23_25 : Int32) (i24_26 : Int32) : Int32 × Int32 × Int32 × Int32 × Int32 × Int32 × Int32 × Int32 × Int32 :=
  let v_69 : Int32 := (F_x6_companyThere i19_21)
  (v_69, i17_19, i18_20, i19_21, i20_22, i21_23, i22_24, i23_25, i24_26)
noncomputable def f_x11_asks_b_15 (u0 : Int32) (u1 : Int32) (u2 : Int32) (i3 : Int32) (i6 : Int32) (i9 : Int32) (a7 : Nat → Int32) (a8 : Nat → Int32) (a13 : Nat → Int32) (a18 : Nat → Int32) (a19 : Nat → Int32) (a20 : Nat → Int32) (a21 : Nat → Int32) (a22 : Nat → Int32) (a23 : Nat → Int32) (a25 : Nat → Int32) (r9n : Nat → Nat) (r9c : Nat → Nat → Int32) : Int32 × Int32 × Int32 × Int32 × Int32 × Int32 × Int32 × Int32 × Int32 :=
  let i17_19 : Int32 := (F_x6_aim u0 u1 i3 i6 i9 a7 a8 a13 a18 a19 a20 a21 a22 a23 a25 r9n r9c).1
  let i18_20 : Int32 := (F_x6_aim u0 u1 i3 i6 i9 a7 a8 a13 a18 a19 a20 a21 a22 a23 a25 r9n r9c).2.1
  let i19_21 : Int32 := (F_x6_aim u0 u1 i3 i6 i9 a7 a8 a13 a18 a19 a20 a21 a22 a23 a25 r9n r9c).2.2.1
  let i20_22 : Int32 := (F_x6_aim u0 u1 i3 i6 i9 a7 a8 a13 a18 a19 a20 a21 a22 a23 a25 r9n r9c).2.2.2.1
  let i21_23 : Int32 := (F_x6_aim u0 u1 i3 i6 i9 a7 a8 a13 a18 a19 a20 a21 a22 a23 a25 r9n r9c).2.2.2.2.1
  let i22_24 : Int32 := (F_x6_aim u0 u1 i3 i6 i9 a7 a8 a13 a18 a19 a20 a21 a22 a23 a25 r9n r9c).2.2.2.2.2.1
  let i23_25 : Int32 := (F_x6_aim u0 u1 i3 i6 i9 a7 a8 a13 a18 a19 a20 a21 a22 a23 a25 r9n r9c).2.2.2.2.2.2.1
  let i24_26 : Int32 := (F_x6_aim u0 u1 i3 i6 i9 a7 a8 a13 a18 a19 a20 a21 a22 a23 a25 r9n r9c).2.2.2.2.2.2.2
  if u2.toInt = 0 then (f_x11_asks_b_38 u2 i9 a21 a22 a23 a25 i17_19 i18_20 i19_21 i20_22 i21_23 i22_24 i23_25 i24_26) else if u2.toInt = 1 then (f_x11_asks_b_44 u2 i9 a21 a22 a23 a25 i17_19 i18_20 i19_21 i20_22 i21_23 i22_24 i23_25 i24_26) else if u2.toInt = 2 then (f_x11_asks_b_50 i9 a21 a22 a23 a25 i17_19 i18_20 i19_21 i20_22 i21_23 i22_24 i23_25 i24_26) else if u2.toInt = 3 then (f_x11_asks_b_56 i17_19 i18_20 i19_21 i20_22 i21_23 i22_24 i23_25 i24_26) else if u2.toInt = 4 then (f_x11_asks_b_62 i17_19 i18_20 i19_21 i20_22 i21_23 i22_24 i23_25 i24_26) else if u2.toInt = 5 then (f_x11_asks_b_68 i17_19 i18_20 i19_21 i20_22 i21_23 i22_24 i23_25 i24_26) else (f_x11_asks_b_36 i17_19 i18_20 i19_21 i20_22 i21_23 i22_24 i23_25 i24_26)
noncomputable def f_x11_asks_b_74 (i17 : Int32) (i18 : Int32) (i19 : Int32) (i20 : Int32) (i21 : Int32) (i22 : Int32) (i23 : Int32) (i24 : Int32) : Int32 × Int32 × Int32 × Int32 × Int32 × Int32 × Int32 × Int32 × Int32 :=
  ((-1 : Int32), i17, i18, i19, i20, i21, i22, i23, i24)
noncomputable def f_x11_asks_b_9 (u0 : Int32) (u1 : Int32) (u2 : Int32) (i3 : Int32) (i6 : Int32) (i9 : Int32) (i17 : Int32) (i18 : Int32) (i19 : Int32) (i20 : Int32) (i21 : Int32) (i22 : Int32) (i23 : Int32) (i24 : Int32) (a7 : Nat → Int32) (a8 : Nat → Int32) (a13 : Nat → Int32) (a18 : Nat → Int32) (a19 : Nat → Int32) (a20 : Nat → Int32) (a21 : Nat → Int32) (a22 : Nat → Int32) (a23 : Nat → Int32) (a25 : Nat → Int32) (r9n : Nat → Nat) (r9c : Nat → Nat → Int32) : Int32 × Int32 × Int32 × Int32 × Int32 × Int32 × Int32 × Int32 × Int32 :=
  let v_10 : Int32 := (F_x11_isDay u1)
  if v_10.toInt ≠ 0 then (f_x11_asks_b_15 u0 u1 u2 i3 i6 i9 a7 a8 a13 a18 a19 a20 a21 a22 a23 a25 r9n r9c) else (f_x11_asks_b_74 i17 i18 i19 i20 i21 i22 i23 i24)
noncomputable def F_x11_asks (u0 : Int32) (u1 : Int32) (u2 : Int32) (i3 : Int32) (i6 : Int32) (i9 : Int32) (i17 : Int32) (i18 : Int32) (i19 : Int32) (i20 : Int32) (i21 : Int32) (i22 : Int32) (i23 : Int32) (i24 : Int32) (a7 : Nat → Int32) (a8 : Nat → Int32) (a13 : Nat → Int32) (a18 : Nat → Int32) (a19 : Nat → Int32) (a20 : Nat → Int32) (a21 : Nat → Int32) (a22 : Nat → Int32) (a23 : Nat → Int32) (a25 : Nat → Int32) (r9n : Nat → Nat) (r9c : Nat → Nat → Int32) : Int32 × Int32 × Int32 × Int32 × Int32 × Int32 × Int32 × Int32 × Int32 :=
  let v_1 : Int32 := (F_x9_has u0 i3)
  if v_1.toInt = 0 then (f_x11_asks_b_7 i17 i18 i19 i20 i21 i22 i23 i24) else (f_x11_asks_b_9 u0 u1 u2 i3 i6 i9 i17 i18 i19 i20 i21 i22 i23 i24 a7 a8 a13 a18 a19 a20 a21 a22 a23 a25 r9n r9c)
noncomputable def f_x11_token_b_7  : Int32 :=
  (-1 : Int32)
noncomputable def f_x11_token_b_28  : Int32 :=
  (-1 : Int32)
noncomputable def f_x11_token_b_34  : Int32 :=
  (-1 : Int32)
noncomputable def f_x11_token_b_36 (u2 : Int32) (f_24 : Nat → Int32) : Int32 :=
  let z_37 : Int32 := f_24 u2.toNatClampNeg
  z_37
noncomputable def f_x11_token_b_30 (u2 : Int32) (n_21 : Nat) (f_24 : Nat → Int32) : Int32 :=
  let z_32 : Int32 := Int32.ofNat n_21
  if u2.toInt ≥ z_32.toInt then f_x11_token_b_34 else (f_x11_token_b_36 u2 f_24)
noncomputable def f_x11_token_b_15 (u0 : Int32) (u1 : Int32) (u2 : Int32) (i3 : Int32) (r9n : Nat → Nat) (r9c : Nat → Nat → Int32) : Int32 :=
  let n_21 : Nat := (F_x9_rowOf u0 u1 i3 r9n r9c).1
  let f_24 : Nat → Int32 := (F_x9_rowOf u0 u1 i3 r9n r9c).2
  if u2.toInt < 0 then f_x11_token_b_28 else (f_x11_token_b_30 u2 n_21 f_24)
noncomputable def f_x11_token_b_39  : Int32 :=
  (-1 : Int32)
noncomputable def f_x11_token_b_9 (u0 : Int32) (u1 : Int32) (u2 : Int32) (i3 : Int32) (r9n : Nat → Nat) (r9c : Nat → Nat → Int32) : Int32 :=
  let v_10 : Int32 := (F_x11_isCopy u1)
  if v_10.toInt ≠ 0 then (f_x11_token_b_15 u0 u1 u2 i3 r9n r9c) else f_x11_token_b_39
noncomputable def F_x11_token (u0 : Int32) (u1 : Int32) (u2 : Int32) (i3 : Int32) (r9n : Nat → Nat) (r9c : Nat → Nat → Int32) : Int32 :=
  let v_1 : Int32 := (F_x9_has u0 i3)
  if v_1.toInt = 0 then f_x11_token_b_7 else (f_x11_token_b_9 u0 u1 u2 i3 r9n r9c)
noncomputable def f_x11_distance_b_19 (n1 : Nat) (a2_15 : Nat → Int32) : Int32 × (Nat → Int32) :=
  let z_20 : Int32 := Int32.ofNat n1
  let z_21 : Int32 := a2_15 z_20.toNatClampNeg
  (z_21, a2_15)
noncomputable def f_x11_distance_b_34 (x_13 : Int32) (self_J_12 : Int32 → (Nat → Int32) → Int32 × (Nat → Int32)) (a2_31 : Nat → Int32) : Int32 × (Nat → Int32) :=
  let z_35 : Int32 := x_13 + Int32.ofInt 1
  self_J_12 z_35 a2_31
noncomputable def f_x11_distance_J_39 (x_29 : Int32) (a2_31 : Nat → Int32) (self_J_27 : Int32 → Int32 → (Nat → Int32) → Int32 × (Nat → Int32)) (y_40 : Int32) (y_42 : Int32) : Int32 × (Nat → Int32) :=
  let z_43 : Int32 := y_42 + y_40
  let z_44 : Int32 := x_29 + (1 : Int32)
  let z_45 : Int32 := a2_31 z_44.toNatClampNeg
  let z_46 : Int32 := x_29 + (1 : Int32)
  let z_47 : Int32 := a2_31 x_29.toNatClampNeg
  let v_48 : Int32 := minI z_47 z_45
  let z_53 : Int32 := (1 : Int32) + v_48
  let v_54 : Int32 := minI z_43 z_53
  let a2_59 : Nat → Int32 := upd a2_31 z_46.toNatClampNeg v_54
  let z_60 : Int32 := x_29 + Int32.ofInt 1
  self_J_27 z_45 z_60 a2_59
noncomputable def f_x11_distance_j39 (x_29 : Int32) (a2_31 : Nat → Int32) (self_J_27 : Int32 → Int32 → (Nat → Int32) → Int32 × (Nat → Int32)) (y_40 : Int32) (y_42 : Int32) : Int32 × (Nat → Int32) := f_x11_distance_J_39 x_29 a2_31 self_J_27 y_40 y_42
noncomputable def f_x11_distance_b_62 (x_28 : Int32) (x_29 : Int32) (a2_31 : Nat → Int32) (self_J_27 : Int32 → Int32 → (Nat → Int32) → Int32 × (Nat → Int32)) : Int32 × (Nat → Int32) :=
  f_x11_distance_j39 x_29 a2_31 self_J_27 ((1 : Int32)) x_28
noncomputable def f_x11_distance_b_63 (x_28 : Int32) (x_29 : Int32) (a2_31 : Nat → Int32) (self_J_27 : Int32 → Int32 → (Nat → Int32) → Int32 × (Nat → Int32)) : Int32 × (Nat → Int32) :=
  f_x11_distance_j39 x_29 a2_31 self_J_27 ((0 : Int32)) x_28
noncomputable def f_x11_distance_b_36 (f0 : Nat → Int32) (f1 : Nat → Int32) (x_13 : Int32) (x_28 : Int32) (x_29 : Int32) (a2_31 : Nat → Int32) (self_J_27 : Int32 → Int32 → (Nat → Int32) → Int32 × (Nat → Int32)) : Int32 × (Nat → Int32) :=
  let z_37 : Int32 := f0 x_13.toNatClampNeg
  let z_38 : Int32 := f1 x_29.toNatClampNeg
  if z_37.toInt ≠ z_38.toInt then (f_x11_distance_b_62 x_28 x_29 a2_31 self_J_27) else (f_x11_distance_b_63 x_28 x_29 a2_31 self_J_27)
noncomputable def f_x11_distance_J_27 (f0 : Nat → Int32) (n1 : Nat) (f1 : Nat → Int32) (x_13 : Int32) (self_J_12 : Int32 → (Nat → Int32) → Int32 × (Nat → Int32)) (x_28 : Int32) (x_29 : Int32) (a2_31 : Nat → Int32) (self_J_27 : Int32 → Int32 → (Nat → Int32) → Int32 × (Nat → Int32)) : Int32 × (Nat → Int32) :=
  let z_32 : Int32 := Int32.ofNat n1
  if x_29.toInt ≥ z_32.toInt then (f_x11_distance_b_34 x_13 self_J_12 a2_31) else (f_x11_distance_b_36 f0 f1 x_13 x_28 x_29 a2_31 self_J_27)
noncomputable def f_x11_distance_j27 (f0 : Nat → Int32) (n1 : Nat) (f1 : Nat → Int32) (x_13 : Int32) (self_J_12 : Int32 → (Nat → Int32) → Int32 × (Nat → Int32)) (n : Nat) : Int32 → Int32 → (Nat → Int32) → Int32 × (Nat → Int32) :=
  Nat.rec (motive := fun _ => Int32 → Int32 → (Nat → Int32) → Int32 × (Nat → Int32)) (fun _ _ _ => (0, (fun _ => 0))) (fun _ sq_ x_28 x_29 a2_31 => f_x11_distance_J_27 f0 n1 f1 x_13 self_J_12 x_28 x_29 a2_31 sq_) n
noncomputable def f_x11_distance_b_23 (f0 : Nat → Int32) (n1 : Nat) (f1 : Nat → Int32) (x_13 : Int32) (a2_15 : Nat → Int32) (self_J_12 : Int32 → (Nat → Int32) → Int32 × (Nat → Int32)) : Int32 × (Nat → Int32) :=
  let z_24 : Int32 := a2_15 (0 : Int32).toNatClampNeg
  let z_25 : Int32 := x_13 + (1 : Int32)
  let a2_26 : Nat → Int32 := upd a2_15 (0 : Int32).toNatClampNeg z_25
  f_x11_distance_j27 f0 n1 f1 x_13 self_J_12 201 z_24 ((0 : Int32)) a2_26
noncomputable def f_x11_distance_J_12 (n0 : Nat) (f0 : Nat → Int32) (n1 : Nat) (f1 : Nat → Int32) (x_13 : Int32) (a2_15 : Nat → Int32) (self_J_12 : Int32 → (Nat → Int32) → Int32 × (Nat → Int32)) : Int32 × (Nat → Int32) :=
  let z_17 : Int32 := Int32.ofNat n0
  if x_13.toInt ≥ z_17.toInt then (f_x11_distance_b_19 n1 a2_15) else (f_x11_distance_b_23 f0 n1 f1 x_13 a2_15 self_J_12)
noncomputable def f_x11_distance_j12 (n0 : Nat) (f0 : Nat → Int32) (n1 : Nat) (f1 : Nat → Int32) (n : Nat) : Int32 → (Nat → Int32) → Int32 × (Nat → Int32) :=
  Nat.rec (motive := fun _ => Int32 → (Nat → Int32) → Int32 × (Nat → Int32)) (fun _ _ => (0, (fun _ => 0))) (fun _ sq_ x_13 a2_15 => f_x11_distance_J_12 n0 f0 n1 f1 x_13 a2_15 sq_) n
noncomputable def f_x11_distance_b_11 (n0 : Nat) (f0 : Nat → Int32) (n1 : Nat) (f1 : Nat → Int32) (a2_8 : Nat → Int32) : Int32 × (Nat → Int32) :=
  f_x11_distance_j12 n0 f0 n1 f1 202 ((0 : Int32)) a2_8
noncomputable def f_x11_distance_b_64 (x_6 : Int32) (a2_8 : Nat → Int32) (self_J_5 : Int32 → (Nat → Int32) → Int32 × (Nat → Int32)) : Int32 × (Nat → Int32) :=
  let a2_65 : Nat → Int32 := upd a2_8 x_6.toNatClampNeg x_6
  let z_66 : Int32 := x_6 + Int32.ofInt 1
  self_J_5 z_66 a2_65
noncomputable def f_x11_distance_J_5 (n0 : Nat) (f0 : Nat → Int32) (n1 : Nat) (f1 : Nat → Int32) (x_6 : Int32) (a2_8 : Nat → Int32) (self_J_5 : Int32 → (Nat → Int32) → Int32 × (Nat → Int32)) : Int32 × (Nat → Int32) :=
  let z_9 : Int32 := Int32.ofNat n1
  if x_6.toInt > z_9.toInt then (f_x11_distance_b_11 n0 f0 n1 f1 a2_8) else (f_x11_distance_b_64 x_6 a2_8 self_J_5)
noncomputable def f_x11_distance_j5 (n0 : Nat) (f0 : Nat → Int32) (n1 : Nat) (f1 : Nat → Int32) (n : Nat) : Int32 → (Nat → Int32) → Int32 × (Nat → Int32) :=
  Nat.rec (motive := fun _ => Int32 → (Nat → Int32) → Int32 × (Nat → Int32)) (fun _ _ => (0, (fun _ => 0))) (fun _ sq_ x_6 a2_8 => f_x11_distance_J_5 n0 f0 n1 f1 x_6 a2_8 sq_) n
noncomputable def f_x11_distance_b_4 (n0 : Nat) (f0 : Nat → Int32) (n1 : Nat) (f1 : Nat → Int32) (a2 : Nat → Int32) : Int32 × (Nat → Int32) :=
  f_x11_distance_j5 n0 f0 n1 f1 202 ((0 : Int32)) a2
noncomputable def f_x11_distance_b_67 (a2 : Nat → Int32) : Int32 × (Nat → Int32) :=
  ((-1 : Int32), a2)
noncomputable def F_x11_distance (n0 : Nat) (f0 : Nat → Int32) (n1 : Nat) (f1 : Nat → Int32) (a2 : Nat → Int32) : Int32 × (Nat → Int32) :=
  let z_2 : Int32 := Int32.ofNat n1
  if z_2.toInt < 13 then (f_x11_distance_b_4 n0 f0 n1 f1 a2) else (f_x11_distance_b_67 a2)
noncomputable def f_x11_differ_b_7 (a2 : Nat → Int32) : Int32 × (Nat → Int32) :=
  ((-1 : Int32), a2)
noncomputable def f_x11_differ_b_15 (a2 : Nat → Int32) : Int32 × (Nat → Int32) :=
  ((-1 : Int32), a2)
noncomputable def f_x11_differ_b_49 (a2 : Nat → Int32) : Int32 × (Nat → Int32) :=
  ((-1 : Int32), a2)
noncomputable def f_x11_differ_b_55 (a2 : Nat → Int32) (n_29 : Nat) (f_32 : Nat → Int32) (n_40 : Nat) (f_43 : Nat → Int32) : Int32 × (Nat → Int32) :=
  let v_56 : Int32 := (F_x11_distance n_29 f_32 n_40 f_43 a2).1
  let a2_59 : Nat → Int32 := (F_x11_distance n_29 f_32 n_40 f_43 a2).2
  (v_56, a2_59)
noncomputable def f_x11_differ_b_63 (a2 : Nat → Int32) : Int32 × (Nat → Int32) :=
  ((-1 : Int32), a2)
noncomputable def f_x11_differ_b_51 (a2 : Nat → Int32) (n_29 : Nat) (f_32 : Nat → Int32) (n_40 : Nat) (f_43 : Nat → Int32) : Int32 × (Nat → Int32) :=
  let z_53 : Int32 := Int32.ofNat n_40
  if z_53.toInt ≠ 0 then (f_x11_differ_b_55 a2 n_29 f_32 n_40 f_43) else (f_x11_differ_b_63 a2)
noncomputable def f_x11_differ_b_23 (u0 : Int32) (u1 : Int32) (u2 : Int32) (i3 : Int32) (a2 : Nat → Int32) (r9n : Nat → Nat) (r9c : Nat → Nat → Int32) : Int32 × (Nat → Int32) :=
  let n_29 : Nat := (F_x9_rowOf u0 u1 i3 r9n r9c).1
  let f_32 : Nat → Int32 := (F_x9_rowOf u0 u1 i3 r9n r9c).2
  let n_40 : Nat := (F_x9_rowOf u0 u2 i3 r9n r9c).1
  let f_43 : Nat → Int32 := (F_x9_rowOf u0 u2 i3 r9n r9c).2
  let z_47 : Int32 := Int32.ofNat n_29
  if z_47.toInt = 0 then (f_x11_differ_b_49 a2) else (f_x11_differ_b_51 a2 n_29 f_32 n_40 f_43)
noncomputable def f_x11_differ_b_65 (a2 : Nat → Int32) : Int32 × (Nat → Int32) :=
  ((-1 : Int32), a2)
noncomputable def f_x11_differ_b_17 (u0 : Int32) (u1 : Int32) (u2 : Int32) (i3 : Int32) (a2 : Nat → Int32) (r9n : Nat → Nat) (r9c : Nat → Nat → Int32) : Int32 × (Nat → Int32) :=
  let v_18 : Int32 := (F_x11_isCopy u2)
  if v_18.toInt ≠ 0 then (f_x11_differ_b_23 u0 u1 u2 i3 a2 r9n r9c) else (f_x11_differ_b_65 a2)
noncomputable def f_x11_differ_b_9 (u0 : Int32) (u1 : Int32) (u2 : Int32) (i3 : Int32) (a2 : Nat → Int32) (r9n : Nat → Nat) (r9c : Nat → Nat → Int32) : Int32 × (Nat → Int32) :=
  let v_10 : Int32 := (F_x11_isCopy u1)
  if v_10.toInt = 0 then (f_x11_differ_b_15 a2) else (f_x11_differ_b_17 u0 u1 u2 i3 a2 r9n r9c)
noncomputable def F_x11_differ (u0 : Int32) (u1 : Int32) (u2 : Int32) (i3 : Int32) (a2 : Nat → Int32) (r9n : Nat → Nat) (r9c : Nat → Nat → Int32) : Int32 × (Nat → Int32) :=
  let v_1 : Int32 := (F_x9_has u0 i3)
  if v_1.toInt = 0 then (f_x11_differ_b_7 a2) else (f_x11_differ_b_9 u0 u1 u2 i3 a2 r9n r9c)
noncomputable def f_x4_hasScholar_b_2  : Int32 :=
  (0 : Int32)
noncomputable def f_x4_hasScholar_b_6  : Int32 :=
  (0 : Int32)
noncomputable def f_x4_hasScholar_b_8  : Int32 :=
  (1 : Int32)
noncomputable def f_x4_hasScholar_b_4 (u0 : Int32) (i7 : Int32) : Int32 :=
  if u0.toInt ≥ i7.toInt then f_x4_hasScholar_b_6 else f_x4_hasScholar_b_8
noncomputable def F_x4_hasScholar (u0 : Int32) (i7 : Int32) : Int32 :=
  if u0.toInt < 0 then f_x4_hasScholar_b_2 else (f_x4_hasScholar_b_4 u0 i7)
noncomputable def f_x4_isVoid_b_4  : Int32 :=
  (0 : Int32)
noncomputable def f_x4_isVoid_b_6  : Int32 :=
  (1 : Int32)
noncomputable def F_x4_isVoid (u0 : Int32) (i8 : Int32) : Int32 :=
  let z_1 : Int32 := (1 : Int32) <<< (u0 &&& 31)
  let z_2 : Int32 := i8 &&& z_1
  if z_2.toInt = 0 then f_x4_isVoid_b_4 else f_x4_isVoid_b_6
