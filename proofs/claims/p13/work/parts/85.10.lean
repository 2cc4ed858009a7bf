noncomputable def f_m12_company_b_10 (i4 : Int32) (a8 : Nat → Int32) : Int32 × Int32 × (Nat → Int32) :=
  ((-1 : Int32), i4, a8)
noncomputable def f_m12_company_b_18 (p0 : Int32) (i4 : Int32) (a8 : Nat → Int32) : Int32 × Int32 × (Nat → Int32) :=
  let a8_19 : Nat → Int32 := upd a8 i4.toNatClampNeg p0
  let z_21 : Int32 := i4 + (1 : Int32)
  let z_22 : Int32 := z_21 - (1 : Int32)
  (z_22, z_21, a8_19)
noncomputable def f_m12_company_b_24 (i4 : Int32) (a8 : Nat → Int32) : Int32 × Int32 × (Nat → Int32) :=
  ((-1 : Int32), i4, a8)
noncomputable def f_m12_company_b_12 (p0 : Int32) (p1 : Int32) (i4 : Int32) (a8 : Nat → Int32) : Int32 × Int32 × (Nat → Int32) :=
  let v_13 : Int32 := (F_m12_lies p1 (0 : Int32) (99 : Int32))
  if v_13.toInt ≠ 0 then (f_m12_company_b_18 p0 i4 a8) else (f_m12_company_b_24 i4 a8)
noncomputable def f_m12_company_b_4 (p0 : Int32) (p1 : Int32) (i4 : Int32) (a8 : Nat → Int32) : Int32 × Int32 × (Nat → Int32) :=
  let v_5 : Int32 := (F_m12_lies p0 (0 : Int32) (255 : Int32))
  if v_5.toInt = 0 then (f_m12_company_b_10 i4 a8) else (f_m12_company_b_12 p0 p1 i4 a8)
noncomputable def F_m12_company (p0 : Int32) (p1 : Int32) (i4 : Int32) (a8 : Nat → Int32) : Int32 × Int32 × (Nat → Int32) :=
  if i4.toInt = 6 then (f_m12_company_b_2 i4 a8) else (f_m12_company_b_4 p0 p1 i4 a8)
noncomputable def f_m12_centre_b_6 (p0 : Int32) : Int32 × Int32 :=
  ((1 : Int32), p0)
noncomputable def f_m12_centre_b_8 (i8 : Int32) : Int32 × Int32 :=
  ((0 : Int32), i8)
noncomputable def F_m12_centre (p0 : Int32) (i8 : Int32) : Int32 × Int32 :=
  let v_1 : Int32 := (F_m12_lies p0 (0 : Int32) (99 : Int32))
  if v_1.toInt ≠ 0 then (f_m12_centre_b_6 p0) else (f_m12_centre_b_8 i8)
noncomputable def f_m12_scholar_b_2 (i5 : Int32) : Int32 × Int32 :=
  ((-1 : Int32), i5)
noncomputable def f_m12_scholar_b_11 (i5 : Int32) : Int32 × Int32 :=
  let z_14 : Int32 := i5 + (1 : Int32)
  let z_15 : Int32 := z_14 - (1 : Int32)
  (z_15, z_14)
noncomputable def f_m12_scholar_b_17 (i5 : Int32) : Int32 × Int32 :=
  ((-1 : Int32), i5)
noncomputable def f_m12_scholar_b_4 (p0 : Int32) (i4 : Int32) (i5 : Int32) : Int32 × Int32 :=
  let z_5 : Int32 := i4 - (1 : Int32)
  let v_6 : Int32 := (F_m12_lies p0 (0 : Int32) z_5)
  if v_6.toInt ≠ 0 then (f_m12_scholar_b_11 i5) else (f_m12_scholar_b_17 i5)
noncomputable def F_m12_scholar (p0 : Int32) (i4 : Int32) (i5 : Int32) : Int32 × Int32 :=
  if i5.toInt = 24 then (f_m12_scholar_b_2 i5) else (f_m12_scholar_b_4 p0 i4 i5)
noncomputable def f_m12_companyOf_b_5  : Int32 :=
  (-1 : Int32)
noncomputable def f_m12_companyOf_b_15 (x_2 : Int32) (self_J_1 : Int32 → Int32) : Int32 :=
  let z_16 : Int32 := x_2 + Int32.ofInt 1
  self_J_1 z_16
noncomputable def f_m12_companyOf_b_17 (x_2 : Int32) : Int32 :=
  x_2
noncomputable def f_m12_companyOf_b_7 (p0 : Int32) (a2 : Nat → Int32) (a8 : Nat → Int32) (x_2 : Int32) (self_J_1 : Int32 → Int32) : Int32 :=
  let z_8 : Int32 := a8 x_2.toNatClampNeg
  let z_9 : Int32 := a2 p0.toNatClampNeg
  let v_10 : Int32 := (F_m12_has z_8 z_9)
  if v_10.toInt = 0 then (f_m12_companyOf_b_15 x_2 self_J_1) else (f_m12_companyOf_b_17 x_2)
noncomputable def f_m12_companyOf_J_1 (p0 : Int32) (i4 : Int32) (a2 : Nat → Int32) (a8 : Nat → Int32) (x_2 : Int32) (self_J_1 : Int32 → Int32) : Int32 :=
  if x_2.toInt ≥ i4.toInt then f_m12_companyOf_b_5 else (f_m12_companyOf_b_7 p0 a2 a8 x_2 self_J_1)
noncomputable def f_m12_companyOf_j1 (p0 : Int32) (i4 : Int32) (a2 : Nat → Int32) (a8 : Nat → Int32) (n : Nat) : Int32 → Int32 :=
  Nat.rec (motive := fun _ => Int32 → Int32) (fun _ => 0) (fun _ sq_ x_2 => f_m12_companyOf_J_1 p0 i4 a2 a8 x_2 sq_) n
noncomputable def F_m12_companyOf (p0 : Int32) (i4 : Int32) (a2 : Nat → Int32) (a8 : Nat → Int32) : Int32 :=
  f_m12_companyOf_j1 p0 i4 a2 a8 7 ((0 : Int32))
noncomputable def f_m12_isInForce_b_8  : Int32 :=
  (0 : Int32)
noncomputable def f_m12_isInForce_b_13  : Int32 :=
  (1 : Int32)
noncomputable def f_m12_isInForce_b_23  : Int32 :=
  (0 : Int32)
noncomputable def f_m12_isInForce_b_25  : Int32 :=
  (1 : Int32)
noncomputable def f_m12_isInForce_b_15 (p0 : Int32) (p1 : Int32) (i4 : Int32) (a2 : Nat → Int32) (a8 : Nat → Int32) (a15 : Nat → Int32) : Int32 :=
  let z_16 : Int32 := a15 p0.toNatClampNeg
  let v_17 : Int32 := (F_m12_companyOf p1 i4 a2 a8)
  if z_16.toInt ≠ v_17.toInt then f_m12_isInForce_b_23 else f_m12_isInForce_b_25
noncomputable def f_m12_isInForce_b_10 (p0 : Int32) (p1 : Int32) (i4 : Int32) (a2 : Nat → Int32) (a8 : Nat → Int32) (a15 : Nat → Int32) : Int32 :=
  let z_11 : Int32 := a15 p0.toNatClampNeg
  if z_11.toInt = (-1) then f_m12_isInForce_b_13 else (f_m12_isInForce_b_15 p0 p1 i4 a2 a8 a15)
noncomputable def F_m12_isInForce (p0 : Int32) (p1 : Int32) (p2 : Int32) (i4 : Int32) (a2 : Nat → Int32) (a8 : Nat → Int32) (a15 : Nat → Int32) (a16 : Nat → Int32) (a17 : Nat → Int32) : Int32 :=
  let z_1 : Int32 := a16 p0.toNatClampNeg
  let z_2 : Int32 := a17 p0.toNatClampNeg
  let v_3 : Int32 := (F_m12_lies p2 z_1 z_2)
  if v_3.toInt = 0 then f_m12_isInForce_b_8 else (f_m12_isInForce_b_10 p0 p1 i4 a2 a8 a15)
noncomputable def f_m12_placeOf_b_6 (x_2 : Int32) : Int32 :=
  x_2
noncomputable def f_m12_placeOf_b_11 (x_2 : Int32) : Int32 :=
  x_2
noncomputable def f_m12_placeOf_b_13 (x_2 : Int32) (self_J_1 : Int32 → Int32) : Int32 :=
  let z_14 : Int32 := x_2 + Int32.ofInt 1
  self_J_1 z_14
noncomputable def f_m12_placeOf_b_8 (p0 : Int32) (a55 : Nat → Int32) (x_2 : Int32) (self_J_1 : Int32 → Int32) : Int32 :=
  let z_9 : Int32 := a55 x_2.toNatClampNeg
  if z_9.toInt = p0.toInt then (f_m12_placeOf_b_11 x_2) else (f_m12_placeOf_b_13 x_2 self_J_1)
noncomputable def f_m12_placeOf_J_1 (p0 : Int32) (i26 : Int32) (a55 : Nat → Int32) (x_2 : Int32) (self_J_1 : Int32 → Int32) : Int32 :=
  if x_2.toInt ≥ i26.toInt then (f_m12_placeOf_b_6 x_2) else (f_m12_placeOf_b_8 p0 a55 x_2 self_J_1)
noncomputable def f_m12_placeOf_j1 (p0 : Int32) (i26 : Int32) (a55 : Nat → Int32) (n : Nat) : Int32 → Int32 :=
  Nat.rec (motive := fun _ => Int32 → Int32) (fun _ => 0) (fun _ sq_ x_2 => f_m12_placeOf_J_1 p0 i26 a55 x_2 sq_) n
noncomputable def F_m12_placeOf (p0 : Int32) (i26 : Int32) (a55 : Nat → Int32) : Int32 :=
  f_m12_placeOf_j1 p0 i26 a55 7 ((0 : Int32))
noncomputable def f_m12_option_b_6 (i26 : Int32) (a55 : Nat → Int32) (a56 : Nat → Int32) (a57 : Nat → Int32) : Int32 × Int32 × (Nat → Int32) × (Nat → Int32) × (Nat → Int32) :=
  ((0 : Int32), i26, a55, a56, a57)
noncomputable def f_m12_option_b_22 (i26 : Int32) (a55 : Nat → Int32) (a56 : Nat → Int32) (a57 : Nat → Int32) : Int32 × Int32 × (Nat → Int32) × (Nat → Int32) × (Nat → Int32) :=
  ((0 : Int32), i26, a55, a56, a57)
noncomputable def f_m12_option_J_37 (p1 : Int32) (a57 : Nat → Int32) (v_16 : Int32) (i26_38 : Int32) (a55_39 : Nat → Int32) (a56_40 : Nat → Int32) : Int32 × Int32 × (Nat → Int32) × (Nat → Int32) × (Nat → Int32) :=
  let z_46 : Int32 := (4 : Int32) * v_16
  let z_47 : Int32 := a56_40 v_16.toNatClampNeg
  let z_48 : Int32 := z_46 + z_47
  let a57_49 : Nat → Int32 := upd a57 z_48.toNatClampNeg p1
  let z_50 : Int32 := a56_40 v_16.toNatClampNeg
  let z_51 : Int32 := z_50 + (1 : Int32)
  let a56_52 : Nat → Int32 := upd a56_40 v_16.toNatClampNeg z_51
  ((1 : Int32), i26_38, a55_39, a56_52, a57_49)
noncomputable def f_m12_option_j37 (p1 : Int32) (a57 : Nat → Int32) (v_16 : Int32) (i26_38 : Int32) (a55_39 : Nat → Int32) (a56_40 : Nat → Int32) : Int32 × Int32 × (Nat → Int32) × (Nat → Int32) × (Nat → Int32) := f_m12_option_J_37 p1 a57 v_16 i26_38 a55_39 a56_40
noncomputable def f_m12_option_b_56 (p0 : Int32) (p1 : Int32) (i26 : Int32) (a55 : Nat → Int32) (a56 : Nat → Int32) (a57 : Nat → Int32) (v_16 : Int32) : Int32 × Int32 × (Nat → Int32) × (Nat → Int32) × (Nat → Int32) :=
  let a55_57 : Nat → Int32 := upd a55 v_16.toNatClampNeg p0
  let a56_58 : Nat → Int32 := upd a56 v_16.toNatClampNeg (0 : Int32)
  let z_60 : Int32 := i26 + (1 : Int32)
  f_m12_option_j37 p1 a57 v_16 z_60 a55_57 a56_58
noncomputable def f_m12_option_J_33 (p0 : Int32) (p1 : Int32) (i26 : Int32) (a55 : Nat → Int32) (a56 : Nat → Int32) (a57 : Nat → Int32) (v_16 : Int32) : Int32 × Int32 × (Nat → Int32) × (Nat → Int32) × (Nat → Int32) :=
  (f_m12_option_b_56 p0 p1 i26 a55 a56 a57 v_16)
noncomputable def f_m12_option_j33 (p0 : Int32) (p1 : Int32) (i26 : Int32) (a55 : Nat → Int32) (a56 : Nat → Int32) (a57 : Nat → Int32) (v_16 : Int32) : Int32 × Int32 × (Nat → Int32) × (Nat → Int32) × (Nat → Int32) := f_m12_option_J_33 p0 p1 i26 a55 a56 a57 v_16
noncomputable def f_m12_option_b_62 (p0 : Int32) (p1 : Int32) (i26 : Int32) (a55 : Nat → Int32) (a56 : Nat → Int32) (a57 : Nat → Int32) (v_16 : Int32) : Int32 × Int32 × (Nat → Int32) × (Nat → Int32) × (Nat → Int32) :=
  f_m12_option_j33 p0 p1 i26 a55 a56 a57 v_16
noncomputable def f_m12_option_J_27 (p0 : Int32) (p1 : Int32) (i26 : Int32) (a55 : Nat → Int32) (a56 : Nat → Int32) (a57 : Nat → Int32) (v_16 : Int32) : Int32 × Int32 × (Nat → Int32) × (Nat → Int32) × (Nat → Int32) :=
  (f_m12_option_b_62 p0 p1 i26 a55 a56 a57 v_16)
noncomputable def f_m12_option_j27 (p0 : Int32) (p1 : Int32) (i26 : Int32) (a55 : Nat → Int32) (a56 : Nat → Int32) (a57 : Nat → Int32) (v_16 : Int32) (n : Nat) : Int32 → Int32 × Int32 × (Nat → Int32) × (Nat → Int32) × (Nat → Int32) :=
  Nat.rec (motive := fun _ => Int32 → Int32 × Int32 × (Nat → Int32) × (Nat → Int32) × (Nat → Int32)) (fun _ => (0, 0, (fun _ => 0), (fun _ => 0), (fun _ => 0))) (fun _ sq_ x_28 => f_m12_option_J_27 p0 p1 i26 a55 a56 a57 v_16) n
noncomputable def f_m12_option_b_26 (p0 : Int32) (p1 : Int32) (i26 : Int32) (a55 : Nat → Int32) (a56 : Nat → Int32) (a57 : Nat → Int32) (v_16 : Int32) : Int32 × Int32 × (Nat → Int32) × (Nat → Int32) × (Nat → Int32) :=
  f_m12_option_j27 p0 p1 i26 a55 a56 a57 v_16 5 ((0 : Int32))
noncomputable def f_m12_option_J_77 (p1 : Int32) (a57 : Nat → Int32) (v_16 : Int32) (i26_78 : Int32) (a55_79 : Nat → Int32) (a56_80 : Nat → Int32) : Int32 × Int32 × (Nat → Int32) × (Nat → Int32) × (Nat → Int32) :=
  let z_86 : Int32 := (4 : Int32) * v_16
  let z_87 : Int32 := a56_80 v_16.toNatClampNeg
  let z_88 : Int32 := z_86 + z_87
  let a57_89 : Nat → Int32 := upd a57 z_88.toNatClampNeg p1
  let z_90 : Int32 := a56_80 v_16.toNatClampNeg
  let z_91 : Int32 := z_90 + (1 : Int32)
  let a56_92 : Nat → Int32 := upd a56_80 v_16.toNatClampNeg z_91
  ((1 : Int32), i26_78, a55_79, a56_92, a57_89)
noncomputable def f_m12_option_j77 (p1 : Int32) (a57 : Nat → Int32) (v_16 : Int32) (i26_78 : Int32) (a55_79 : Nat → Int32) (a56_80 : Nat → Int32) : Int32 × Int32 × (Nat → Int32) × (Nat → Int32) × (Nat → Int32) := f_m12_option_J_77 p1 a57 v_16 i26_78 a55_79 a56_80
noncomputable def f_m12_option_b_96 (p1 : Int32) (i26 : Int32) (a55 : Nat → Int32) (a56 : Nat → Int32) (a57 : Nat → Int32) (v_16 : Int32) : Int32 × Int32 × (Nat → Int32) × (Nat → Int32) × (Nat → Int32) :=
  f_m12_option_j77 p1 a57 v_16 i26 a55 a56
noncomputable def f_m12_option_J_73 (p1 : Int32) (i26 : Int32) (a55 : Nat → Int32) (a56 : Nat → Int32) (a57 : Nat → Int32) (v_16 : Int32) : Int32 × Int32 × (Nat → Int32) × (Nat → Int32) × (Nat → Int32) :=
  (f_m12_option_b_96 p1 i26 a55 a56 a57 v_16)
noncomputable def f_m12_option_j73 (p1 : Int32) (i26 : Int32) (a55 : Nat → Int32) (a56 : Nat → Int32) (a57 : Nat → Int32) (v_16 : Int32) : Int32 × Int32 × (Nat → Int32) × (Nat → Int32) × (Nat → Int32) := f_m12_option_J_73 p1 i26 a55 a56 a57 v_16
noncomputable def f_m12_option_b_101 (p1 : Int32) (i26 : Int32) (a55 : Nat → Int32) (a56 : Nat → Int32) (a57 : Nat → Int32) (v_16 : Int32) : Int32 × Int32 × (Nat → Int32) × (Nat → Int32) × (Nat → Int32) :=
  f_m12_option_j73 p1 i26 a55 a56 a57 v_16
noncomputable def f_m12_option_b_107 (x_68 : Int32) (self_J_67 : Int32 → Int32 × Int32 × (Nat → Int32) × (Nat → Int32) × (Nat → Int32)) : Int32 × Int32 × (Nat → Int32) × (Nat → Int32) × (Nat → Int32) :=
  let z_108 : Int32 := x_68 + Int32.ofInt 1
  self_J_67 z_108
noncomputable def f_m12_option_b_109 (i26 : Int32) (a55 : Nat → Int32) (a56 : Nat → Int32) (a57 : Nat → Int32) : Int32 × Int32 × (Nat → Int32) × (Nat → Int32) × (Nat → Int32) :=
  ((0 : Int32), i26, a55, a56, a57)
noncomputable def f_m12_option_b_102 (p1 : Int32) (i26 : Int32) (a55 : Nat → Int32) (a56 : Nat → Int32) (a57 : Nat → Int32) (v_16 : Int32) (x_68 : Int32) (self_J_67 : Int32 → Int32 × Int32 × (Nat → Int32) × (Nat → Int32) × (Nat → Int32)) : Int32 × Int32 × (Nat → Int32) × (Nat → Int32) × (Nat → Int32) :=
  let z_103 : Int32 := (4 : Int32) * v_16
  let z_104 : Int32 := z_103 + x_68
  let z_105 : Int32 := a57 z_104.toNatClampNeg
  if z_105.toInt ≠ p1.toInt then (f_m12_option_b_107 x_68 self_J_67) else (f_m12_option_b_109 i26 a55 a56 a57)
noncomputable def f_m12_option_b_98 (p1 : Int32) (i26 : Int32) (a55 : Nat → Int32) (a56 : Nat → Int32) (a57 : Nat → Int32) (v_16 : Int32) (x_68 : Int32) (self_J_67 : Int32 → Int32 × Int32 × (Nat → Int32) × (Nat → Int32) × (Nat → Int32)) : Int32 × Int32 × (Nat → Int32) × (Nat → Int32) × (Nat → Int32) :=
  let z_99 : Int32 := a56 v_16.toNatClampNeg
  if x_68.toInt ≥ z_99.toInt then (f_m12_option_b_101 p1 i26 a55 a56 a57 v_16) else (f_m12_option_b_102 p1 i26 a55 a56 a57 v_16 x_68 self_J_67)
noncomputable def f_m12_option_J_67 (p1 : Int32) (i26 : Int32) (a55 : Nat → Int32) (a56 : Nat → Int32) (a57 : Nat → Int32) (v_16 : Int32) (x_68 : Int32) (self_J_67 : Int32 → Int32 × Int32 × (Nat → Int32) × (Nat → Int32) × (Nat → Int32)) : Int32 × Int32 × (Nat → Int32) × (Nat → Int32) × (Nat → Int32) :=
  (f_m12_option_b_98 p1 i26 a55 a56 a57 v_16 x_68 self_J_67)
noncomputable def f_m12_option_j67 (p1 : Int32) (i26 : Int32) (a55 : Nat → Int32) (a56 : Nat → Int32) (a57 : Nat → Int32) (v_16 : Int32) (n : Nat) : Int32 → Int32 × Int32 × (Nat → Int32) × (Nat → Int32) × (Nat → Int32) :=
  Nat.rec (motive := fun _ => Int32 → Int32 × Int32 × (Nat → Int32) × (Nat → Int32) × (Nat → Int32)) (fun _ => (0, 0, (fun _ => 0), (fun _ => 0), (fun _ => 0))) (fun _ sq_ x_68 => f_m12_option_J_67 p1 i26 a55 a56 a57 v_16 x_68 sq_) n
noncomputable def f_m12_option_b_66 (p1 : Int32) (i26 : Int32) (a55 : Nat → Int32) (a56 : Nat → Int32) (a57 : Nat → Int32) (v_16 : Int32) : Int32 × Int32 × (Nat → Int32) × (Nat → Int32) × (Nat → Int32) :=
  f_m12_option_j67 p1 i26 a55 a56 a57 v_16 5 ((0 : Int32))
noncomputable def f_m12_option_b_111 (i26 : Int32) (a55 : Nat → Int32) (a56 : Nat → Int32) (a57 : Nat → Int32) : Int32 × Int32 × (Nat → Int32) × (Nat → Int32) × (Nat → Int32) :=
  ((0 : Int32), i26, a55, a56, a57)
noncomputable def f_m12_option_b_63 (p1 : Int32) (i26 : Int32) (a55 : Nat → Int32) (a56 : Nat → Int32) (a57 : Nat → Int32) (v_16 : Int32) : Int32 × Int32 × (Nat → Int32) × (Nat → Int32) × (Nat → Int32) :=
  let z_64 : Int32 := a56 v_16.toNatClampNeg
  if z_64.toInt ≠ 4 then (f_m12_option_b_66 p1 i26 a55 a56 a57 v_16) else (f_m12_option_b_111 i26 a55 a56 a57)
noncomputable def f_m12_option_b_24 (p0 : Int32) (p1 : Int32) (i26 : Int32) (a55 : Nat → Int32) (a56 : Nat → Int32) (a57 : Nat → Int32) (v_16 : Int32) : Int32 × Int32 × (Nat → Int32) × (Nat → Int32) × (Nat → Int32) :=
  if v_16.toInt ≥ i26.toInt then (f_m12_option_b_26 p0 p1 i26 a55 a56 a57 v_16) else (f_m12_option_b_63 p1 i26 a55 a56 a57 v_16)
noncomputable def f_m12_option_b_15 (p0 : Int32) (p1 : Int32) (i26 : Int32) (a55 : Nat → Int32) (a56 : Nat → Int32) (a57 : Nat → Int32) : Int32 × Int32 × (Nat → Int32) × (Nat → Int32) × (Nat → Int32) :=
  let v_16 : Int32 := (F_m12_placeOf p0 i26 a55)
  if v_16.toInt = 6 then (f_m12_option_b_22 i26 a55 a56 a57) else (f_m12_option_b_24 p0 p1 i26 a55 a56 a57 v_16)
noncomputable def f_m12_option_b_113 (i26 : Int32) (a55 : Nat → Int32) (a56 : Nat → Int32) (a57 : Nat → Int32) : Int32 × Int32 × (Nat → Int32) × (Nat → Int32) × (Nat → Int32) :=
  ((0 : Int32), i26, a55, a56, a57)
noncomputable def f_m12_option_b_8 (p0 : Int32) (p1 : Int32) (i3 : Int32) (i26 : Int32) (a55 : Nat → Int32) (a56 : Nat → Int32) (a57 : Nat → Int32) : Int32 × Int32 × (Nat → Int32) × (Nat → Int32) × (Nat → Int32) :=
  let v_9 : Int32 := (F_m12_isWord p1 i3)
  if v_9.toInt ≠ 0 then (f_m12_option_b_15 p0 p1 i26 a55 a56 a57) else (f_m12_option_b_113 i26 a55 a56 a57)
noncomputable def F_m12_option (p0 : Int32) (p1 : Int32) (i3 : Int32) (i26 : Int32) (a55 : Nat → Int32) (a56 : Nat → Int32) (a57 : Nat → Int32) : Int32 × Int32 × (Nat → Int32) × (Nat → Int32) × (Nat → Int32) :=
  let v_1 : Int32 := (F_m12_lies p0 (0 : Int32) (39 : Int32))
  if v_1.toInt = 0 then (f_m12_option_b_6 i26 a55 a56 a57) else (f_m12_option_b_8 p0 p1 i3 i26 a55 a56 a57)
noncomputable def f_m12_fewest_b_6 (p0 : Int32) (p1 : Int32) (a32_4 : Nat → Int32) : Int32 × (Nat → Int32) :=
  let z_7 : Int32 := (20 : Int32) * p0
  let z_8 : Int32 := z_7 + p1
  let z_9 : Int32 := a32_4 z_8.toNatClampNeg
  (z_9, a32_4)
noncomputable def f_m12_fewest_b_17 (x_2 : Int32) (self_J_1 : Int32 → (Nat → Int32) → Int32 × (Nat → Int32)) (a32_15 : Nat → Int32) : Int32 × (Nat → Int32) :=
  let z_18 : Int32 := x_2 + Int32.ofInt 1
  self_J_1 z_18 a32_15
noncomputable def f_m12_fewest_b_22 (x_2 : Int32) (x_13 : Int32) (a32_15 : Nat → Int32) (self_J_12 : Int32 → (Nat → Int32) → Int32 × (Nat → Int32)) (z_20 : Int32) : Int32 × (Nat → Int32) :=
  let z_23 : Int32 := (20 : Int32) * x_2
  let z_24 : Int32 := z_23 + x_13
  let a32_25 : Nat → Int32 := upd a32_15 z_24.toNatClampNeg z_20
  let z_26 : Int32 := x_13 + Int32.ofInt 1
  self_J_12 z_26 a32_25
noncomputable def f_m12_fewest_b_29 (x_2 : Int32) (x_13 : Int32) (a32_15 : Nat → Int32) (self_J_12 : Int32 → (Nat → Int32) → Int32 × (Nat → Int32)) (z_20 : Int32) : Int32 × (Nat → Int32) :=
  let z_30 : Int32 := (20 : Int32) * x_2
  let z_31 : Int32 := z_30 + x_13
  let a32_32 : Nat → Int32 := upd a32_15 z_31.toNatClampNeg z_20
  let z_33 : Int32 := x_13 + Int32.ofInt 1
  self_J_12 z_33 a32_32
noncomputable def f_m12_fewest_b_62 (x_2 : Int32) (x_13 : Int32) (a32_15 : Nat → Int32) (self_J_12 : Int32 → (Nat → Int32) → Int32 × (Nat → Int32)) (y_60 : Int32) : Int32 × (Nat → Int32) :=
  let z_63 : Int32 := (20 : Int32) * x_2
  let z_64 : Int32 := z_63 + x_13
  let a32_65 : Nat → Int32 := upd a32_15 z_64.toNatClampNeg y_60
  let z_66 : Int32 := x_13 + Int32.ofInt 1
  self_J_12 z_66 a32_65
noncomputable def f_m12_fewest_b_67 (x_2 : Int32) (x_13 : Int32) (a32_15 : Nat → Int32) (self_J_12 : Int32 → (Nat → Int32) → Int32 × (Nat → Int32)) (z_58 : Int32) : Int32 × (Nat → Int32) :=
  let z_68 : Int32 := (20 : Int32) * x_2
  let z_69 : Int32 := z_68 + x_13
  let a32_70 : Nat → Int32 := upd a32_15 z_69.toNatClampNeg z_58
  let z_71 : Int32 := x_13 + Int32.ofInt 1
  self_J_12 z_71 a32_70
noncomputable def f_m12_fewest_J_59 (x_2 : Int32) (x_13 : Int32) (a32_15 : Nat → Int32) (self_J_12 : Int32 → (Nat → Int32) → Int32 × (Nat → Int32)) (z_58 : Int32) (y_60 : Int32) : Int32 × (Nat → Int32) :=
  if z_58.toInt ≥ y_60.toInt then (f_m12_fewest_b_62 x_2 x_13 a32_15 self_J_12 y_60) else (f_m12_fewest_b_67 x_2 x_13 a32_15 self_J_12 z_58)
noncomputable def f_m12_fewest_j59 (x_2 : Int32) (x_13 : Int32) (a32_15 : Nat → Int32) (self_J_12 : Int32 → (Nat → Int32) → Int32 × (Nat → Int32)) (z_58 : Int32) (y_60 : Int32) : Int32 × (Nat → Int32) := f_m12_fewest_J_59 x_2 x_13 a32_15 self_J_12 z_58 y_60
noncomputable def f_m12_fewest_b_73 (x_2 : Int32) (x_13 : Int32) (a32_15 : Nat → Int32) (self_J_12 : Int32 → (Nat → Int32) → Int32 × (Nat → Int32)) (z_48 : Int32) (z_58 : Int32) : Int32 × (Nat → Int32) :=
  f_m12_fewest_j59 x_2 x_13 a32_15 self_J_12 z_58 z_48
noncomputable def f_m12_fewest_b_74 (x_2 : Int32) (x_13 : Int32) (a32_15 : Nat → Int32) (self_J_12 : Int32 → (Nat → Int32) → Int32 × (Nat → Int32)) (z_53 : Int32) (z_58 : Int32) : Int32 × (Nat → Int32) :=
  f_m12_fewest_j59 x_2 x_13 a32_15 self_J_12 z_58 z_53
noncomputable def f_m12_fewest_J_44 (x_2 : Int32) (x_13 : Int32) (a32_15 : Nat → Int32) (self_J_12 : Int32 → (Nat → Int32) → Int32 × (Nat → Int32)) (y_45 : Int32) (y_47 : Int32) : Int32 × (Nat → Int32) :=
  let z_48 : Int32 := y_47 + y_45
  let z_49 : Int32 := x_2 - (1 : Int32)
  let z_50 : Int32 := (20 : Int32) * z_49
  let z_51 : Int32 := z_50 + x_13
  let z_52 : Int32 := a32_15 z_51.toNatClampNeg
  let z_53 : Int32 := z_52 + (1 : Int32)
  let z_54 : Int32 := (20 : Int32) * x_2
  let z_55 : Int32 := z_54 + x_13
  let z_56 : Int32 := z_55 - (1 : Int32)
  let z_57 : Int32 := a32_15 z_56.toNatClampNeg
  let z_58 : Int32 := z_57 + (1 : Int32)
  if z_53.toInt ≥ z_48.toInt then (f_m12_fewest_b_73 x_2 x_13 a32_15 self_J_12 z_48 z_58) else (f_m12_fewest_b_74 x_2 x_13 a32_15 self_J_12 z_53 z_58)
noncomputable def f_m12_fewest_j44 (x_2 : Int32) (x_13 : Int32) (a32_15 : Nat → Int32) (self_J_12 : Int32 → (Nat → Int32) → Int32 × (Nat → Int32)) (y_45 : Int32) (y_47 : Int32) : Int32 × (Nat → Int32) := f_m12_fewest_J_44 x_2 x_13 a32_15 self_J_12 y_45 y_47
noncomputable def f_m12_fewest_b_76 (x_2 : Int32) (x_13 : Int32) (a32_15 : Nat → Int32) (self_J_12 : Int32 → (Nat → Int32) → Int32 × (Nat → Int32)) (z_39 : Int32) : Int32 × (Nat → Int32) :=
  f_m12_fewest_j44 x_2 x_13 a32_15 self_J_12 ((1 : Int32)) z_39
noncomputable def f_m12_fewest_b_77 (x_2 : Int32) (x_13 : Int32) (a32_15 : Nat → Int32) (self_J_12 : Int32 → (Nat → Int32) → Int32 × (Nat → Int32)) (z_39 : Int32) : Int32 × (Nat → Int32) :=
  f_m12_fewest_j44 x_2 x_13 a32_15 self_J_12 ((0 : Int32)) z_39
noncomputable def f_m12_fewest_b_34 (a30 : Nat → Int32) (a31 : Nat → Int32) (x_2 : Int32) (x_13 : Int32) (a32_15 : Nat → Int32) (self_J_12 : Int32 → (Nat → Int32) → Int32 × (Nat → Int32)) : Int32 × (Nat → Int32) :=
  let z_35 : Int32 := x_2 - (1 : Int32)
  let z_36 : Int32 := (20 : Int32) * z_35
  let z_37 : Int32 := z_36 + x_13
  let z_38 : Int32 := z_37 - (1 : Int32)
  let z_39 : Int32 := a32_15 z_38.toNatClampNeg
  let z_40 : Int32 := x_2 - (1 : Int32)
  let z_41 : Int32 := a30 z_40.toNatClampNeg
  let z_42 : Int32 := x_13 - (1 : Int32)
  let z_43 : Int32 := a31 z_42.toNatClampNeg
  if z_41.toInt ≠ z_43.toInt then (f_m12_fewest_b_76 x_2 x_13 a32_15 self_J_12 z_39) else (f_m12_fewest_b_77 x_2 x_13 a32_15 self_J_12 z_39)
noncomputable def f_m12_fewest_b_27 (a30 : Nat → Int32) (a31 : Nat → Int32) (x_2 : Int32) (x_13 : Int32) (a32_15 : Nat → Int32) (self_J_12 : Int32 → (Nat → Int32) → Int32 × (Nat → Int32)) (z_20 : Int32) : Int32 × (Nat → Int32) :=
  if x_13.toInt ≤ 0 then (f_m12_fewest_b_29 x_2 x_13 a32_15 self_J_12 z_20) else (f_m12_fewest_b_34 a30 a31 x_2 x_13 a32_15 self_J_12)
noncomputable def f_m12_fewest_b_19 (a30 : Nat → Int32) (a31 : Nat → Int32) (x_2 : Int32) (x_13 : Int32) (a32_15 : Nat → Int32) (self_J_12 : Int32 → (Nat → Int32) → Int32 × (Nat → Int32)) : Int32 × (Nat → Int32) :=
  let z_20 : Int32 := x_2 + x_13
  if x_2.toInt ≤ 0 then (f_m12_fewest_b_22 x_2 x_13 a32_15 self_J_12 z_20) else (f_m12_fewest_b_27 a30 a31 x_2 x_13 a32_15 self_J_12 z_20)
noncomputable def f_m12_fewest_J_12 (p1 : Int32) (a30 : Nat → Int32) (a31 : Nat → Int32) (x_2 : Int32) (self_J_1 : Int32 → (Nat → Int32) → Int32 × (Nat → Int32)) (x_13 : Int32) (a32_15 : Nat → Int32) (self_J_12 : Int32 → (Nat → Int32) → Int32 × (Nat → Int32)) : Int32 × (Nat → Int32) :=
  if x_13.toInt > p1.toInt then (f_m12_fewest_b_17 x_2 self_J_1 a32_15) else (f_m12_fewest_b_19 a30 a31 x_2 x_13 a32_15 self_J_12)
noncomputable def f_m12_fewest_j12 (p1 : Int32) (a30 : Nat → Int32) (a31 : Nat → Int32) (x_2 : Int32) (self_J_1 : Int32 → (Nat → Int32) → Int32 × (Nat → Int32)) (n : Nat) : Int32 → (Nat → Int32) → Int32 × (Nat → Int32) :=
  Nat.rec (motive := fun _ => Int32 → (Nat → Int32) → Int32 × (Nat → Int32)) (fun _ _ => (0, (fun _ => 0))) (fun _ sq_ x_13 a32_15 => f_m12_fewest_J_12 p1 a30 a31 x_2 self_J_1 x_13 a32_15 sq_) n
noncomputable def f_m12_fewest_b_11 (p1 : Int32) (a30 : Nat → Int32) (a31 : Nat → Int32) (x_2 : Int32) (a32_4 : Nat → Int32) (self_J_1 : Int32 → (Nat → Int32) → Int32 × (Nat → Int32)) : Int32 × (Nat → Int32) :=
  f_m12_fewest_j12 p1 a30 a31 x_2 self_J_1 14 ((0 : Int32)) a32_4
noncomputable def f_m12_fewest_J_1 (p0 : Int32) (p1 : Int32) (a30 : Nat → Int32) (a31 : Nat → Int32) (x_2 : Int32) (a32_4 : Nat → Int32) (self_J_1 : Int32 → (Nat → Int32) → Int32 × (Nat → Int32)) : Int32 × (Nat → Int32) :=
  if x_2.toInt > p0.toInt then (f_m12_fewest_b_6 p0 p1 a32_4) else (f_m12_fewest_b_11 p1 a30 a31 x_2 a32_4 self_J_1)
noncomputable def f_m12_fewest_j1 (p0 : Int32) (p1 : Int32) (a30 : Nat → Int32) (a31 : Nat → Int32) (n : Nat) : Int32 → (Nat → Int32) → Int32 × (Nat → Int32) :=
  Nat.rec (motive := fun _ => Int32 → (Nat → Int32) → Int32 × (Nat → Int32)) (fun _ _ => (0, (fun _ => 0))) (fun _ sq_ x_2 a32_4 => f_m12_fewest_J_1 p0 p1 a30 a31 x_2 a32_4 sq_) n
noncomputable def F_m12_fewest (p0 : Int32) (p1 : Int32) (a30 : Nat → Int32) (a31 : Nat → Int32) (a32 : Nat → Int32) : Int32 × (Nat → Int32) :=
  f_m12_fewest_j1 p0 p1 a30 a31 14 ((0 : Int32)) a32
noncomputable def f_m12_differ_b_7 (a30 : Nat → Int32) (a31 : Nat → Int32) (a32 : Nat → Int32) : Int32 × (Nat → Int32) × (Nat → Int32) × (Nat → Int32) :=
  ((-1 : Int32), a30, a31, a32)
noncomputable def f_m12_differ_b_15 (a30 : Nat → Int32) (a31 : Nat → Int32) (a32 : Nat → Int32) : Int32 × (Nat → Int32) × (Nat → Int32) × (Nat → Int32) :=
  ((-1 : Int32), a30, a31, a32)
noncomputable def f_m12_differ_b_30 (a30 : Nat → Int32) (a31 : Nat → Int32) (a32 : Nat → Int32) : Int32 × (Nat → Int32) × (Nat → Int32) × (Nat → Int32) :=
  ((-1 : Int32), a30, a31, a32)
noncomputable def f_m12_differ_b_42 (a4 : Nat → Int32) (a32 : Nat → Int32) (z_25 : Int32) (z_27 : Int32) (a30_39 : Nat → Int32) (a31_40 : Nat → Int32) : Int32 × (Nat → Int32) × (Nat → Int32) × (Nat → Int32) :=
  let z_43 : Int32 := a4 z_25.toNatClampNeg
  let z_44 : Int32 := a4 z_27.toNatClampNeg
  let v_45 : Int32 := (F_m12_fewest z_43 z_44 a30_39 a31_40 a32).1
  let a32_48 : Nat → Int32 := (F_m12_fewest z_43 z_44 a30_39 a31_40 a32).2
  (v_45, a30_39, a31_40, a32_48)
noncomputable def f_m12_differ_b_52 (a5 : Nat → Int32) (z_25 : Int32) (z_27 : Int32) (x_37 : Int32) (a30_39 : Nat → Int32) (a31_40 : Nat → Int32) (self_J_36 : Int32 → (Nat → Int32) → (Nat → Int32) → Int32 × (Nat → Int32) × (Nat → Int32) × (Nat → Int32)) : Int32 × (Nat → Int32) × (Nat → Int32) × (Nat → Int32) :=
  let z_53 : Int32 := (8 : Int32) * z_25
  let z_54 : Int32 := z_53 + x_37
  let z_55 : Int32 := a5 z_54.toNatClampNeg
  let a30_56 : Nat → Int32 := upd a30_39 x_37.toNatClampNeg z_55
  let z_57 : Int32 := (8 : Int32) * z_27
  let z_58 : Int32 := z_57 + x_37
  let z_59 : Int32 := a5 z_58.toNatClampNeg
  let a31_60 : Nat → Int32 := upd a31_40 x_37.toNatClampNeg z_59
  let z_61 : Int32 := x_37 + Int32.ofInt 1
  self_J_36 z_61 a30_56 a31_60
noncomputable def f_m12_differ_J_36 (a4 : Nat → Int32) (a5 : Nat → Int32) (a32 : Nat → Int32) (z_25 : Int32) (z_27 : Int32) (x_37 : Int32) (a30_39 : Nat → Int32) (a31_40 : Nat → Int32) (self_J_36 : Int32 → (Nat → Int32) → (Nat → Int32) → Int32 × (Nat → Int32) × (Nat → Int32) × (Nat → Int32)) : Int32 × (Nat → Int32) × (Nat → Int32) × (Nat → Int32) :=
  if x_37.toInt ≥ 8 then (f_m12_differ_b_42 a4 a32 z_25 z_27 a30_39 a31_40) else (f_m12_differ_b_52 a5 z_25 z_27 x_37 a30_39 a31_40 self_J_36)
noncomputable def f_m12_differ_j36 (a4 : Nat → Int32) (a5 : Nat → Int32) (a32 : Nat → Int32) (z_25 : Int32) (z_27 : Int32) (n : Nat) : Int32 → (Nat → Int32) → (Nat → Int32) → Int32 × (Nat → Int32) × (Nat → Int32) × (Nat → Int32) :=
  Nat.rec (motive := fun _ => Int32 → (Nat → Int32) → (Nat → Int32) → Int32 × (Nat → Int32) × (Nat → Int32) × (Nat → Int32)) (fun _ _ _ => (0, (fun _ => 0), (fun _ => 0), (fun _ => 0))) (fun _ sq_ x_37 a30_39 a31_40 => f_m12_differ_J_36 a4 a5 a32 z_25 z_27 x_37 a30_39 a31_40 sq_) n
