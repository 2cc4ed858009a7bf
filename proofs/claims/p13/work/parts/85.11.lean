noncomputable def f_m12_differ_b_35 (a4 : Nat → Int32) (a5 : Nat → Int32) (a30 : Nat → Int32) (a31 : Nat → Int32) (a32 : Nat → Int32) (z_25 : Int32) (z_27 : Int32) : Int32 × (Nat → Int32) × (Nat → Int32) × (Nat → Int32) :=
  f_m12_differ_j36 a4 a5 a32 z_25 z_27 9 ((0 : Int32)) a30 a31
noncomputable def f_m12_differ_b_62 (a30 : Nat → Int32) (a31 : Nat → Int32) (a32 : Nat → Int32) : Int32 × (Nat → Int32) × (Nat → Int32) × (Nat → Int32) :=
  ((-1 : Int32), a30, a31, a32)
noncomputable def f_m12_differ_b_32 (a4 : Nat → Int32) (a5 : Nat → Int32) (a30 : Nat → Int32) (a31 : Nat → Int32) (a32 : Nat → Int32) (z_25 : Int32) (z_27 : Int32) : Int32 × (Nat → Int32) × (Nat → Int32) × (Nat → Int32) :=
  let z_33 : Int32 := a4 z_27.toNatClampNeg
  if z_33.toInt ≠ 0 then (f_m12_differ_b_35 a4 a5 a30 a31 a32 z_25 z_27) else (f_m12_differ_b_62 a30 a31 a32)
noncomputable def f_m12_differ_b_23 (p0 : Int32) (p1 : Int32) (p2 : Int32) (a4 : Nat → Int32) (a5 : Nat → Int32) (a30 : Nat → Int32) (a31 : Nat → Int32) (a32 : Nat → Int32) : Int32 × (Nat → Int32) × (Nat → Int32) × (Nat → Int32) :=
  let z_24 : Int32 := (3 : Int32) * p0
  let z_25 : Int32 := z_24 + p1
  let z_26 : Int32 := (3 : Int32) * p0
  let z_27 : Int32 := z_26 + p2
  let z_28 : Int32 := a4 z_25.toNatClampNeg
  if z_28.toInt = 0 then (f_m12_differ_b_30 a30 a31 a32) else (f_m12_differ_b_32 a4 a5 a30 a31 a32 z_25 z_27)
noncomputable def f_m12_differ_b_64 (a30 : Nat → Int32) (a31 : Nat → Int32) (a32 : Nat → Int32) : Int32 × (Nat → Int32) × (Nat → Int32) × (Nat → Int32) :=
  ((-1 : Int32), a30, a31, a32)
noncomputable def f_m12_differ_b_17 (p0 : Int32) (p1 : Int32) (p2 : Int32) (a4 : Nat → Int32) (a5 : Nat → Int32) (a30 : Nat → Int32) (a31 : Nat → Int32) (a32 : Nat → Int32) : Int32 × (Nat → Int32) × (Nat → Int32) × (Nat → Int32) :=
  let v_18 : Int32 := (F_m12_lies p2 (0 : Int32) (2 : Int32))
  if v_18.toInt ≠ 0 then (f_m12_differ_b_23 p0 p1 p2 a4 a5 a30 a31 a32) else (f_m12_differ_b_64 a30 a31 a32)
noncomputable def f_m12_differ_b_9 (p0 : Int32) (p1 : Int32) (p2 : Int32) (a4 : Nat → Int32) (a5 : Nat → Int32) (a30 : Nat → Int32) (a31 : Nat → Int32) (a32 : Nat → Int32) : Int32 × (Nat → Int32) × (Nat → Int32) × (Nat → Int32) :=
  let v_10 : Int32 := (F_m12_lies p1 (0 : Int32) (2 : Int32))
  if v_10.toInt = 0 then (f_m12_differ_b_15 a30 a31 a32) else (f_m12_differ_b_17 p0 p1 p2 a4 a5 a30 a31 a32)
noncomputable def F_m12_differ (p0 : Int32) (p1 : Int32) (p2 : Int32) (i2 : Int32) (a4 : Nat → Int32) (a5 : Nat → Int32) (a30 : Nat → Int32) (a31 : Nat → Int32) (a32 : Nat → Int32) : Int32 × (Nat → Int32) × (Nat → Int32) × (Nat → Int32) :=
  let v_1 : Int32 := (F_m12_isVerse p0 i2)
  if v_1.toInt = 0 then (f_m12_differ_b_7 a30 a31 a32) else (f_m12_differ_b_9 p0 p1 p2 a4 a5 a30 a31 a32)
noncomputable def f_m12_here_b_2  : Int32 :=
  (0 : Int32)
noncomputable def f_m12_here_b_5 (i9 : Int32) (a1 : Nat → Int32) : Int32 :=
  let z_6 : Int32 := a1 i9.toNatClampNeg
  (z_6 &&& (255 : Int32))
noncomputable def F_m12_here (i9 : Int32) (i10 : Int32) (a1 : Nat → Int32) : Int32 :=
  if i9.toInt ≥ i10.toInt then f_m12_here_b_2 else (f_m12_here_b_5 i9 a1)
noncomputable def f_m12_fails_b_2 (p0 : Int32) (p1 : Int32) : Int32 :=
  let z_3 : Int32 := (-1000 : Int32) * p0
  let z_4 : Int32 := z_3 - p1
  z_4
noncomputable def f_m12_fails_b_5 (i11 : Int32) : Int32 :=
  i11
noncomputable def F_m12_fails (p0 : Int32) (p1 : Int32) (i11 : Int32) : Int32 :=
  if i11.toInt ≥ 0 then (f_m12_fails_b_2 p0 p1) else (f_m12_fails_b_5 i11)
noncomputable def f_m12_isGood_b_2  : Int32 :=
  (0 : Int32)
noncomputable def f_m12_isGood_b_4  : Int32 :=
  (1 : Int32)
noncomputable def F_m12_isGood (i11 : Int32) : Int32 :=
  if i11.toInt ≠ 0 then f_m12_isGood_b_2 else f_m12_isGood_b_4
noncomputable def f_m12_emit_b_7  : Unit :=
  ()
noncomputable def f_m12_emit_b_19  : Unit :=
  ()
noncomputable def F_m12_emit (i11 : Int32) : Unit :=
  let v_1 : Int32 := (F_m12_isGood i11)
  if v_1.toInt ≠ 0 then f_m12_emit_b_7 else f_m12_emit_b_19
noncomputable def f_m12_top_b_2  : Int32 :=
  (0 : Int32)
noncomputable def f_m12_top_b_4 (i15 : Int32) (a27 : Nat → Int32) : Int32 :=
  let z_5 : Int32 := i15 - (1 : Int32)
  let z_6 : Int32 := a27 z_5.toNatClampNeg
  z_6
noncomputable def F_m12_top (i15 : Int32) (a27 : Nat → Int32) : Int32 :=
  if i15.toInt ≤ 0 then f_m12_top_b_2 else (f_m12_top_b_4 i15 a27)
noncomputable def F_m12_puts (p0 : Int32) (i9 : Int32) (i15 : Int32) (a27 : Nat → Int32) : Int32 × Int32 × (Nat → Int32) :=
  let a27_1 : Nat → Int32 := upd a27 i15.toNatClampNeg p0
  let z_3 : Int32 := i15 + (1 : Int32)
  let z_4 : Int32 := i9 + (1 : Int32)
  (z_4, z_3, a27_1)
noncomputable def f_m12_opens_b_2 (i9 : Int32) (i10 : Int32) (i11 : Int32) (i14 : Int32) (i15 : Int32) (a1 : Nat → Int32) (a27 : Nat → Int32) : Int32 × Int32 × Int32 × Int32 × (Nat → Int32) :=
  let z_3 : Int32 := i14 + (1 : Int32)
  let v_4 : Int32 := (F_m12_here i9 i10 a1)
  let i9_13 : Int32 := (F_m12_puts v_4 i9 i15 a27).1
  let i15_14 : Int32 := (F_m12_puts v_4 i9 i15 a27).2.1
  let a27_15 : Nat → Int32 := (F_m12_puts v_4 i9 i15 a27).2.2
  (i9_13, i11, z_3, i15_14, a27_15)
noncomputable def f_m12_opens_b_25 (i9 : Int32) (i10 : Int32) (i11 : Int32) (i14 : Int32) (i15 : Int32) (a1 : Nat → Int32) (a27 : Nat → Int32) : Int32 × Int32 × Int32 × Int32 × (Nat → Int32) :=
  let i11_29 : Int32 := (F_m12_fails (5 : Int32) i9 i11)
  let z_33 : Int32 := i14 + (1 : Int32)
  let v_34 : Int32 := (F_m12_here i9 i10 a1)
  let i9_43 : Int32 := (F_m12_puts v_34 i9 i15 a27).1
  let i15_44 : Int32 := (F_m12_puts v_34 i9 i15 a27).2.1
  let a27_45 : Nat → Int32 := (F_m12_puts v_34 i9 i15 a27).2.2
  (i9_43, i11_29, z_33, i15_44, a27_45)
noncomputable def F_m12_opens (i9 : Int32) (i10 : Int32) (i11 : Int32) (i14 : Int32) (i15 : Int32) (a1 : Nat → Int32) (a27 : Nat → Int32) : Int32 × Int32 × Int32 × Int32 × (Nat → Int32) :=
  if i14.toInt ≠ 6 then (f_m12_opens_b_2 i9 i10 i11 i14 i15 a1 a27) else (f_m12_opens_b_25 i9 i10 i11 i14 i15 a1 a27)
noncomputable def F_m12_seesDigit (i9 : Int32) (i10 : Int32) (a1 : Nat → Int32) : Int32 :=
  let v_1 : Int32 := (F_m12_here i9 i10 a1)
  let v_6 : Int32 := (F_m12_lies v_1 (48 : Int32) (57 : Int32))
  v_6
noncomputable def f_m12_readsNumber_b_26 (x_9 : Int32) (i9_10 : Int32) (i11_11 : Int32) : Int32 × Int32 × Int32 :=
  (x_9, i9_10, i11_11)
noncomputable def f_m12_readsNumber_b_28 (i9 : Int32) (x_9 : Int32) (i9_10 : Int32) (i11_11 : Int32) : Int32 × Int32 × Int32 :=
  let i11_32 : Int32 := (F_m12_fails (3 : Int32) i9 i11_11)
  (x_9, i9_10, i11_32)
noncomputable def f_m12_readsNumber_b_24 (p0 : Int32) (i9 : Int32) (x_9 : Int32) (i9_10 : Int32) (i11_11 : Int32) : Int32 × Int32 × Int32 :=
  if x_9.toInt ≤ p0.toInt then (f_m12_readsNumber_b_26 x_9 i9_10 i11_11) else (f_m12_readsNumber_b_28 i9 x_9 i9_10 i11_11)
noncomputable def f_m12_readsNumber_b_46 (x_9 : Int32) (i9_10 : Int32) (i11_11 : Int32) : Int32 × Int32 × Int32 :=
  (x_9, i9_10, i11_11)
noncomputable def f_m12_readsNumber_b_48 (i9 : Int32) (x_9 : Int32) (i9_10 : Int32) (i11_11 : Int32) : Int32 × Int32 × Int32 :=
  let i11_52 : Int32 := (F_m12_fails (3 : Int32) i9 i11_11)
  (x_9, i9_10, i11_52)
noncomputable def f_m12_readsNumber_b_44 (p0 : Int32) (i9 : Int32) (x_9 : Int32) (i9_10 : Int32) (i11_11 : Int32) : Int32 × Int32 × Int32 :=
  if x_9.toInt ≤ p0.toInt then (f_m12_readsNumber_b_46 x_9 i9_10 i11_11) else (f_m12_readsNumber_b_48 i9 x_9 i9_10 i11_11)
noncomputable def f_m12_readsNumber_J_59 (i10 : Int32) (a1 : Nat → Int32) (x_9 : Int32) (i9_10 : Int32) (self_J_8 : Int32 → Int32 → Int32 → Int32 × Int32 × Int32) (i11_60 : Int32) : Int32 × Int32 × Int32 :=
  let z_63 : Int32 := (10 : Int32) * x_9
  let v_64 : Int32 := (F_m12_here i9_10 i10 a1)
  let z_69 : Int32 := z_63 + v_64
  let z_70 : Int32 := z_69 - (48 : Int32)
  let z_71 : Int32 := i9_10 + (1 : Int32)
  self_J_8 z_70 z_71 i11_60
noncomputable def f_m12_readsNumber_j59 (i10 : Int32) (a1 : Nat → Int32) (x_9 : Int32) (i9_10 : Int32) (self_J_8 : Int32 → Int32 → Int32 → Int32 × Int32 × Int32) (i11_60 : Int32) : Int32 × Int32 × Int32 := f_m12_readsNumber_J_59 i10 a1 x_9 i9_10 self_J_8 i11_60
noncomputable def f_m12_readsNumber_b_73 (i10 : Int32) (a1 : Nat → Int32) (x_9 : Int32) (i9_10 : Int32) (i11_11 : Int32) (self_J_8 : Int32 → Int32 → Int32 → Int32 × Int32 × Int32) : Int32 × Int32 × Int32 :=
  f_m12_readsNumber_j59 i10 a1 x_9 i9_10 self_J_8 i11_11
noncomputable def f_m12_readsNumber_b_74 (i10 : Int32) (a1 : Nat → Int32) (x_9 : Int32) (i9_10 : Int32) (i11_11 : Int32) (self_J_8 : Int32 → Int32 → Int32 → Int32 × Int32 × Int32) : Int32 × Int32 × Int32 :=
  let i11_78 : Int32 := (F_m12_fails (2 : Int32) i9_10 i11_11)
  f_m12_readsNumber_j59 i10 a1 x_9 i9_10 self_J_8 i11_78
noncomputable def f_m12_readsNumber_b_57 (i9 : Int32) (i10 : Int32) (a1 : Nat → Int32) (x_9 : Int32) (i9_10 : Int32) (i11_11 : Int32) (self_J_8 : Int32 → Int32 → Int32 → Int32 × Int32 × Int32) : Int32 × Int32 × Int32 :=
  let z_58 : Int32 := i9 + (5 : Int32)
  if i9_10.toInt ≠ z_58.toInt then (f_m12_readsNumber_b_73 i10 a1 x_9 i9_10 i11_11 self_J_8) else (f_m12_readsNumber_b_74 i10 a1 x_9 i9_10 i11_11 self_J_8)
noncomputable def f_m12_readsNumber_b_37 (p0 : Int32) (i9 : Int32) (i10 : Int32) (a1 : Nat → Int32) (x_9 : Int32) (i9_10 : Int32) (i11_11 : Int32) (self_J_8 : Int32 → Int32 → Int32 → Int32 × Int32 × Int32) : Int32 × Int32 × Int32 :=
  let v_38 : Int32 := (F_m12_seesDigit i9_10 i10 a1)
  if v_38.toInt = 0 then (f_m12_readsNumber_b_44 p0 i9 x_9 i9_10 i11_11) else (f_m12_readsNumber_b_57 i9 i10 a1 x_9 i9_10 i11_11 self_J_8)
noncomputable def f_m12_readsNumber_J_8 (p0 : Int32) (i9 : Int32) (i10 : Int32) (a1 : Nat → Int32) (x_9 : Int32) (i9_10 : Int32) (i11_11 : Int32) (self_J_8 : Int32 → Int32 → Int32 → Int32 × Int32 × Int32) : Int32 × Int32 × Int32 :=
  let v_18 : Int32 := (F_m12_isGood i11_11)
  if v_18.toInt = 0 then (f_m12_readsNumber_b_24 p0 i9 x_9 i9_10 i11_11) else (f_m12_readsNumber_b_37 p0 i9 i10 a1 x_9 i9_10 i11_11 self_J_8)
noncomputable def f_m12_readsNumber_j8 (p0 : Int32) (i9 : Int32) (i10 : Int32) (a1 : Nat → Int32) (n : Nat) : Int32 → Int32 → Int32 → Int32 × Int32 × Int32 :=
  Nat.rec (motive := fun _ => Int32 → Int32 → Int32 → Int32 × Int32 × Int32) (fun _ _ _ => (0, 0, 0)) (fun _ sq_ x_9 i9_10 i11_11 => f_m12_readsNumber_J_8 p0 i9 i10 a1 x_9 i9_10 i11_11 sq_) n
noncomputable def f_m12_readsNumber_b_7 (p0 : Int32) (i9 : Int32) (i10 : Int32) (i11 : Int32) (a1 : Nat → Int32) : Int32 × Int32 × Int32 :=
  f_m12_readsNumber_j8 p0 i9 i10 a1 181 ((0 : Int32)) i9 i11
noncomputable def f_m12_readsNumber_b_108 (x_91 : Int32) (i9_92 : Int32) (i11_93 : Int32) : Int32 × Int32 × Int32 :=
  (x_91, i9_92, i11_93)
noncomputable def f_m12_readsNumber_b_110 (i9 : Int32) (x_91 : Int32) (i9_92 : Int32) (i11_93 : Int32) : Int32 × Int32 × Int32 :=
  let i11_114 : Int32 := (F_m12_fails (3 : Int32) i9 i11_93)
  (x_91, i9_92, i11_114)
noncomputable def f_m12_readsNumber_b_106 (p0 : Int32) (i9 : Int32) (x_91 : Int32) (i9_92 : Int32) (i11_93 : Int32) : Int32 × Int32 × Int32 :=
  if x_91.toInt ≤ p0.toInt then (f_m12_readsNumber_b_108 x_91 i9_92 i11_93) else (f_m12_readsNumber_b_110 i9 x_91 i9_92 i11_93)
noncomputable def f_m12_readsNumber_b_128 (x_91 : Int32) (i9_92 : Int32) (i11_93 : Int32) : Int32 × Int32 × Int32 :=
  (x_91, i9_92, i11_93)
noncomputable def f_m12_readsNumber_b_130 (i9 : Int32) (x_91 : Int32) (i9_92 : Int32) (i11_93 : Int32) : Int32 × Int32 × Int32 :=
  let i11_134 : Int32 := (F_m12_fails (3 : Int32) i9 i11_93)
  (x_91, i9_92, i11_134)
noncomputable def f_m12_readsNumber_b_126 (p0 : Int32) (i9 : Int32) (x_91 : Int32) (i9_92 : Int32) (i11_93 : Int32) : Int32 × Int32 × Int32 :=
  if x_91.toInt ≤ p0.toInt then (f_m12_readsNumber_b_128 x_91 i9_92 i11_93) else (f_m12_readsNumber_b_130 i9 x_91 i9_92 i11_93)
noncomputable def f_m12_readsNumber_J_141 (i10 : Int32) (a1 : Nat → Int32) (x_91 : Int32) (i9_92 : Int32) (self_J_90 : Int32 → Int32 → Int32 → Int32 × Int32 × Int32) (i11_142 : Int32) : Int32 × Int32 × Int32 :=
  let z_145 : Int32 := (10 : Int32) * x_91
  let v_146 : Int32 := (F_m12_here i9_92 i10 a1)
  let z_151 : Int32 := z_145 + v_146
  let z_152 : Int32 := z_151 - (48 : Int32)
  let z_153 : Int32 := i9_92 + (1 : Int32)
  self_J_90 z_152 z_153 i11_142
noncomputable def f_m12_readsNumber_j141 (i10 : Int32) (a1 : Nat → Int32) (x_91 : Int32) (i9_92 : Int32) (self_J_90 : Int32 → Int32 → Int32 → Int32 × Int32 × Int32) (i11_142 : Int32) : Int32 × Int32 × Int32 := f_m12_readsNumber_J_141 i10 a1 x_91 i9_92 self_J_90 i11_142
noncomputable def f_m12_readsNumber_b_155 (i10 : Int32) (a1 : Nat → Int32) (x_91 : Int32) (i9_92 : Int32) (i11_93 : Int32) (self_J_90 : Int32 → Int32 → Int32 → Int32 × Int32 × Int32) : Int32 × Int32 × Int32 :=
  f_m12_readsNumber_j141 i10 a1 x_91 i9_92 self_J_90 i11_93
noncomputable def f_m12_readsNumber_b_156 (i10 : Int32) (a1 : Nat → Int32) (x_91 : Int32) (i9_92 : Int32) (i11_93 : Int32) (self_J_90 : Int32 → Int32 → Int32 → Int32 × Int32 × Int32) : Int32 × Int32 × Int32 :=
  let i11_160 : Int32 := (F_m12_fails (2 : Int32) i9_92 i11_93)
  f_m12_readsNumber_j141 i10 a1 x_91 i9_92 self_J_90 i11_160
noncomputable def f_m12_readsNumber_b_139 (i9 : Int32) (i10 : Int32) (a1 : Nat → Int32) (x_91 : Int32) (i9_92 : Int32) (i11_93 : Int32) (self_J_90 : Int32 → Int32 → Int32 → Int32 × Int32 × Int32) : Int32 × Int32 × Int32 :=
  let z_140 : Int32 := i9 + (5 : Int32)
  if i9_92.toInt ≠ z_140.toInt then (f_m12_readsNumber_b_155 i10 a1 x_91 i9_92 i11_93 self_J_90) else (f_m12_readsNumber_b_156 i10 a1 x_91 i9_92 i11_93 self_J_90)
noncomputable def f_m12_readsNumber_b_119 (p0 : Int32) (i9 : Int32) (i10 : Int32) (a1 : Nat → Int32) (x_91 : Int32) (i9_92 : Int32) (i11_93 : Int32) (self_J_90 : Int32 → Int32 → Int32 → Int32 × Int32 × Int32) : Int32 × Int32 × Int32 :=
  let v_120 : Int32 := (F_m12_seesDigit i9_92 i10 a1)
  if v_120.toInt = 0 then (f_m12_readsNumber_b_126 p0 i9 x_91 i9_92 i11_93) else (f_m12_readsNumber_b_139 i9 i10 a1 x_91 i9_92 i11_93 self_J_90)
noncomputable def f_m12_readsNumber_J_90 (p0 : Int32) (i9 : Int32) (i10 : Int32) (a1 : Nat → Int32) (x_91 : Int32) (i9_92 : Int32) (i11_93 : Int32) (self_J_90 : Int32 → Int32 → Int32 → Int32 × Int32 × Int32) : Int32 × Int32 × Int32 :=
  let v_100 : Int32 := (F_m12_isGood i11_93)
  if v_100.toInt = 0 then (f_m12_readsNumber_b_106 p0 i9 x_91 i9_92 i11_93) else (f_m12_readsNumber_b_119 p0 i9 i10 a1 x_91 i9_92 i11_93 self_J_90)
noncomputable def f_m12_readsNumber_j90 (p0 : Int32) (i9 : Int32) (i10 : Int32) (a1 : Nat → Int32) (n : Nat) : Int32 → Int32 → Int32 → Int32 × Int32 × Int32 :=
  Nat.rec (motive := fun _ => Int32 → Int32 → Int32 → Int32 × Int32 × Int32) (fun _ _ _ => (0, 0, 0)) (fun _ sq_ x_91 i9_92 i11_93 => f_m12_readsNumber_J_90 p0 i9 i10 a1 x_91 i9_92 i11_93 sq_) n
noncomputable def f_m12_readsNumber_b_82 (p0 : Int32) (i9 : Int32) (i10 : Int32) (i11 : Int32) (a1 : Nat → Int32) : Int32 × Int32 × Int32 :=
  let i11_86 : Int32 := (F_m12_fails (1 : Int32) i9 i11)
  f_m12_readsNumber_j90 p0 i9 i10 a1 181 ((0 : Int32)) i9 i11_86
noncomputable def F_m12_readsNumber (p0 : Int32) (i9 : Int32) (i10 : Int32) (i11 : Int32) (a1 : Nat → Int32) : Int32 × Int32 × Int32 :=
  let v_1 : Int32 := (F_m12_seesDigit i9 i10 a1)
  if v_1.toInt ≠ 0 then (f_m12_readsNumber_b_7 p0 i9 i10 i11 a1) else (f_m12_readsNumber_b_82 p0 i9 i10 i11 a1)
noncomputable def f_m12_must_b_7 (i9 : Int32) (i11 : Int32) : Int32 × Int32 :=
  let z_8 : Int32 := i9 + (1 : Int32)
  (z_8, i11)
noncomputable def f_m12_must_b_9 (i9 : Int32) (i11 : Int32) : Int32 × Int32 :=
  let i11_13 : Int32 := (F_m12_fails (1 : Int32) i9 i11)
  let z_17 : Int32 := i9 + (1 : Int32)
  (z_17, i11_13)
noncomputable def F_m12_must (p0 : Int32) (i9 : Int32) (i10 : Int32) (i11 : Int32) (a1 : Nat → Int32) : Int32 × Int32 :=
  let v_1 : Int32 := (F_m12_here i9 i10 a1)
  if v_1.toInt = p0.toInt then (f_m12_must_b_7 i9 i11) else (f_m12_must_b_9 i9 i11)
noncomputable def f_m12_isTimes_b_2  : Int32 :=
  (1 : Int32)
noncomputable def f_m12_isTimes_b_7  : Int32 :=
  (1 : Int32)
noncomputable def f_m12_isTimes_b_12  : Int32 :=
  (0 : Int32)
noncomputable def f_m12_isTimes_b_14  : Int32 :=
  (1 : Int32)
noncomputable def f_m12_isTimes_b_10 (p0 : Int32) : Int32 :=
  if p0.toInt ≠ 37 then f_m12_isTimes_b_12 else f_m12_isTimes_b_14
noncomputable def f_m12_isTimes_b_5 (p0 : Int32) : Int32 :=
  if p0.toInt = 47 then f_m12_isTimes_b_7 else (f_m12_isTimes_b_10 p0)
noncomputable def F_m12_isTimes (p0 : Int32) : Int32 :=
  if p0.toInt = 42 then f_m12_isTimes_b_2 else (f_m12_isTimes_b_5 p0)
noncomputable def f_m12_isPlus_b_2  : Int32 :=
  (1 : Int32)
noncomputable def f_m12_isPlus_b_7  : Int32 :=
  (0 : Int32)
noncomputable def f_m12_isPlus_b_9  : Int32 :=
  (1 : Int32)
noncomputable def f_m12_isPlus_b_5 (p0 : Int32) : Int32 :=
  if p0.toInt ≠ 45 then f_m12_isPlus_b_7 else f_m12_isPlus_b_9
noncomputable def F_m12_isPlus (p0 : Int32) : Int32 :=
  if p0.toInt = 43 then f_m12_isPlus_b_2 else (f_m12_isPlus_b_5 p0)
noncomputable def f_m12_isSign_b_2  : Int32 :=
  (1 : Int32)
noncomputable def f_m12_isSign_b_7  : Int32 :=
  (1 : Int32)
noncomputable def f_m12_isSign_b_12  : Int32 :=
  (0 : Int32)
noncomputable def f_m12_isSign_b_14  : Int32 :=
  (1 : Int32)
noncomputable def f_m12_isSign_b_10 (p0 : Int32) : Int32 :=
  if p0.toInt ≠ 61 then f_m12_isSign_b_12 else f_m12_isSign_b_14
noncomputable def f_m12_isSign_b_5 (p0 : Int32) : Int32 :=
  if p0.toInt = 62 then f_m12_isSign_b_7 else (f_m12_isSign_b_10 p0)
noncomputable def F_m12_isSign (p0 : Int32) : Int32 :=
  if p0.toInt = 60 then f_m12_isSign_b_2 else (f_m12_isSign_b_5 p0)
noncomputable def f_m12_isValue_b_2  : Int32 :=
  (1 : Int32)
noncomputable def f_m12_isValue_b_6  : Int32 :=
  (1 : Int32)
noncomputable def f_m12_isValue_b_10  : Int32 :=
  (1 : Int32)
noncomputable def f_m12_isValue_b_14  : Int32 :=
  (1 : Int32)
noncomputable def f_m12_isValue_b_18  : Int32 :=
  (1 : Int32)
noncomputable def f_m12_isValue_b_22  : Int32 :=
  (0 : Int32)
noncomputable def f_m12_isValue_b_24  : Int32 :=
  (1 : Int32)
noncomputable def f_m12_isValue_b_20 (p0 : Int32) : Int32 :=
  if p0.toInt ≠ 100 then f_m12_isValue_b_22 else f_m12_isValue_b_24
noncomputable def f_m12_isValue_b_16 (p0 : Int32) : Int32 :=
  if p0.toInt = 99 then f_m12_isValue_b_18 else (f_m12_isValue_b_20 p0)
noncomputable def f_m12_isValue_b_12 (p0 : Int32) : Int32 :=
  if p0.toInt = 110 then f_m12_isValue_b_14 else (f_m12_isValue_b_16 p0)
noncomputable def f_m12_isValue_b_8 (p0 : Int32) : Int32 :=
  if p0.toInt = 109 then f_m12_isValue_b_10 else (f_m12_isValue_b_12 p0)
noncomputable def f_m12_isValue_b_4 (p0 : Int32) : Int32 :=
  if p0.toInt = 98 then f_m12_isValue_b_6 else (f_m12_isValue_b_8 p0)
noncomputable def F_m12_isValue (p0 : Int32) : Int32 :=
  if p0.toInt = 118 then f_m12_isValue_b_2 else (f_m12_isValue_b_4 p0)
noncomputable def f_m12_sums_b_67 (i15_37 : Int32) (self_J_35 : Int32 → Int32) : Int32 :=
  let z_86 : Int32 := i15_37 - (1 : Int32)
  self_J_35 z_86
noncomputable def f_m12_sums_b_90 (i15_37 : Int32) : Int32 :=
  i15_37
noncomputable def f_m12_sums_b_102 (i15_37 : Int32) : Int32 :=
  i15_37
noncomputable def f_m12_sums_b_103 (i15_37 : Int32) (self_J_35 : Int32 → Int32) : Int32 :=
  let z_122 : Int32 := i15_37 - (1 : Int32)
  self_J_35 z_122
noncomputable def f_m12_sums_b_91 (a27 : Nat → Int32) (i15_37 : Int32) (self_J_35 : Int32 → Int32) : Int32 :=
  let v_92 : Int32 := (F_m12_top i15_37 a27)
  let v_97 : Int32 := (F_m12_isPlus v_92)
  if v_97.toInt = 0 then (f_m12_sums_b_102 i15_37) else (f_m12_sums_b_103 i15_37 self_J_35)
noncomputable def f_m12_sums_b_88 (p0 : Int32) (a27 : Nat → Int32) (i15_37 : Int32) (self_J_35 : Int32 → Int32) : Int32 :=
  if p0.toInt = 0 then (f_m12_sums_b_90 i15_37) else (f_m12_sums_b_91 a27 i15_37 self_J_35)
noncomputable def f_m12_sums_J_35 (p0 : Int32) (a27 : Nat → Int32) (i15_37 : Int32) (self_J_35 : Int32 → Int32) : Int32 :=
  let v_57 : Int32 := (F_m12_top i15_37 a27)
  let v_62 : Int32 := (F_m12_isTimes v_57)
  if v_62.toInt ≠ 0 then (f_m12_sums_b_67 i15_37 self_J_35) else (f_m12_sums_b_88 p0 a27 i15_37 self_J_35)
noncomputable def f_m12_sums_j35 (p0 : Int32) (a27 : Nat → Int32) (n : Nat) : Int32 → Int32 :=
  Nat.rec (motive := fun _ => Int32 → Int32) (fun _ => 0) (fun _ sq_ i15_37 => f_m12_sums_J_35 p0 a27 i15_37 sq_) n
noncomputable def f_m12_sums_b_14 (p0 : Int32) (i15 : Int32) (a27 : Nat → Int32) : Int32 :=
  let z_33 : Int32 := i15 - (1 : Int32)
  f_m12_sums_j35 p0 a27 160 z_33
noncomputable def f_m12_sums_b_126 (i15 : Int32) : Int32 :=
  i15
noncomputable def f_m12_sums_b_138 (i15 : Int32) : Int32 :=
  i15
noncomputable def f_m12_sums_b_192 (i15_162 : Int32) (self_J_160 : Int32 → Int32) : Int32 :=
  let z_211 : Int32 := i15_162 - (1 : Int32)
  self_J_160 z_211
noncomputable def f_m12_sums_b_226 (i15_162 : Int32) : Int32 :=
  i15_162
noncomputable def f_m12_sums_b_227 (i15_162 : Int32) (self_J_160 : Int32 → Int32) : Int32 :=
  let z_246 : Int32 := i15_162 - (1 : Int32)
  self_J_160 z_246
noncomputable def f_m12_sums_b_215 (a27 : Nat → Int32) (i15_162 : Int32) (self_J_160 : Int32 → Int32) : Int32 :=
  let v_216 : Int32 := (F_m12_top i15_162 a27)
  let v_221 : Int32 := (F_m12_isPlus v_216)
  if v_221.toInt = 0 then (f_m12_sums_b_226 i15_162) else (f_m12_sums_b_227 i15_162 self_J_160)
noncomputable def f_m12_sums_b_213 (a27 : Nat → Int32) (i15_162 : Int32) (self_J_160 : Int32 → Int32) : Int32 :=
  (f_m12_sums_b_215 a27 i15_162 self_J_160)
noncomputable def f_m12_sums_J_160 (a27 : Nat → Int32) (i15_162 : Int32) (self_J_160 : Int32 → Int32) : Int32 :=
  let v_182 : Int32 := (F_m12_top i15_162 a27)
  let v_187 : Int32 := (F_m12_isTimes v_182)
  if v_187.toInt ≠ 0 then (f_m12_sums_b_192 i15_162 self_J_160) else (f_m12_sums_b_213 a27 i15_162 self_J_160)
noncomputable def f_m12_sums_j160 (a27 : Nat → Int32) (n : Nat) : Int32 → Int32 :=
  Nat.rec (motive := fun _ => Int32 → Int32) (fun _ => 0) (fun _ sq_ i15_162 => f_m12_sums_J_160 a27 i15_162 sq_) n
noncomputable def f_m12_sums_b_139 (i15 : Int32) (a27 : Nat → Int32) : Int32 :=
  let z_158 : Int32 := i15 - (1 : Int32)
  f_m12_sums_j160 a27 160 z_158
noncomputable def f_m12_sums_b_127 (i15 : Int32) (a27 : Nat → Int32) : Int32 :=
  let v_128 : Int32 := (F_m12_top i15 a27)
  let v_133 : Int32 := (F_m12_isPlus v_128)
  if v_133.toInt = 0 then (f_m12_sums_b_138 i15) else (f_m12_sums_b_139 i15 a27)
noncomputable def f_m12_sums_b_124 (p0 : Int32) (i15 : Int32) (a27 : Nat → Int32) : Int32 :=
  if p0.toInt = 0 then (f_m12_sums_b_126 i15) else (f_m12_sums_b_127 i15 a27)
noncomputable def F_m12_sums (p0 : Int32) (i15 : Int32) (a27 : Nat → Int32) : Int32 :=
  let v_4 : Int32 := (F_m12_top i15 a27)
  let v_9 : Int32 := (F_m12_isTimes v_4)
  if v_9.toInt ≠ 0 then (f_m12_sums_b_14 p0 i15 a27) else (f_m12_sums_b_124 p0 i15 a27)
noncomputable def f_m12_joins_b_60 (i15_34 : Int32) (self_J_32 : Int32 → Int32) : Int32 :=
  let z_80 : Int32 := i15_34 - (1 : Int32)
  self_J_32 z_80
noncomputable def f_m12_joins_b_84 (i15_34 : Int32) : Int32 :=
  i15_34
noncomputable def f_m12_joins_b_92 (i15_34 : Int32) : Int32 :=
  i15_34
noncomputable def f_m12_joins_b_93 (i15_34 : Int32) (self_J_32 : Int32 → Int32) : Int32 :=
  let z_113 : Int32 := i15_34 - (1 : Int32)
  self_J_32 z_113
noncomputable def f_m12_joins_b_85 (a27 : Nat → Int32) (i15_34 : Int32) (self_J_32 : Int32 → Int32) : Int32 :=
  let v_86 : Int32 := (F_m12_top i15_34 a27)
  if v_86.toInt ≠ 124 then (f_m12_joins_b_92 i15_34) else (f_m12_joins_b_93 i15_34 self_J_32)
noncomputable def f_m12_joins_b_82 (p0 : Int32) (a27 : Nat → Int32) (i15_34 : Int32) (self_J_32 : Int32 → Int32) : Int32 :=
  if p0.toInt = 0 then (f_m12_joins_b_84 i15_34) else (f_m12_joins_b_85 a27 i15_34 self_J_32)
noncomputable def f_m12_joins_J_32 (p0 : Int32) (a27 : Nat → Int32) (i15_34 : Int32) (self_J_32 : Int32 → Int32) : Int32 :=
  let v_54 : Int32 := (F_m12_top i15_34 a27)
  if v_54.toInt = 38 then (f_m12_joins_b_60 i15_34 self_J_32) else (f_m12_joins_b_82 p0 a27 i15_34 self_J_32)
noncomputable def f_m12_joins_j32 (p0 : Int32) (a27 : Nat → Int32) (n : Nat) : Int32 → Int32 :=
  Nat.rec (motive := fun _ => Int32 → Int32) (fun _ => 0) (fun _ sq_ i15_34 => f_m12_joins_J_32 p0 a27 i15_34 sq_) n
noncomputable def f_m12_joins_b_10 (p0 : Int32) (i15 : Int32) (a27 : Nat → Int32) : Int32 :=
  let z_30 : Int32 := i15 - (1 : Int32)
  f_m12_joins_j32 p0 a27 160 z_30
noncomputable def f_m12_joins_b_117 (i15 : Int32) : Int32 :=
  i15
noncomputable def f_m12_joins_b_125 (i15 : Int32) : Int32 :=
  i15
noncomputable def f_m12_joins_b_176 (i15_150 : Int32) (self_J_148 : Int32 → Int32) : Int32 :=
  let z_196 : Int32 := i15_150 - (1 : Int32)
  self_J_148 z_196
noncomputable def f_m12_joins_b_207 (i15_150 : Int32) : Int32 :=
  i15_150
noncomputable def f_m12_joins_b_208 (i15_150 : Int32) (self_J_148 : Int32 → Int32) : Int32 :=
  let z_228 : Int32 := i15_150 - (1 : Int32)
  self_J_148 z_228
noncomputable def f_m12_joins_b_200 (a27 : Nat → Int32) (i15_150 : Int32) (self_J_148 : Int32 → Int32) : Int32 :=
  let v_201 : Int32 := (F_m12_top i15_150 a27)
  if v_201.toInt ≠ 124 then (f_m12_joins_b_207 i15_150) else (f_m12_joins_b_208 i15_150 self_J_148)
noncomputable def f_m12_joins_b_198 (a27 : Nat → Int32) (i15_150 : Int32) (self_J_148 : Int32 → Int32) : Int32 :=
  (f_m12_joins_b_200 a27 i15_150 self_J_148)
noncomputable def f_m12_joins_J_148 (a27 : Nat → Int32) (i15_150 : Int32) (self_J_148 : Int32 → Int32) : Int32 :=
  let v_170 : Int32 := (F_m12_top i15_150 a27)
  if v_170.toInt = 38 then (f_m12_joins_b_176 i15_150 self_J_148) else (f_m12_joins_b_198 a27 i15_150 self_J_148)
noncomputable def f_m12_joins_j148 (a27 : Nat → Int32) (n : Nat) : Int32 → Int32 :=
  Nat.rec (motive := fun _ => Int32 → Int32) (fun _ => 0) (fun _ sq_ i15_150 => f_m12_joins_J_148 a27 i15_150 sq_) n
noncomputable def f_m12_joins_b_126 (i15 : Int32) (a27 : Nat → Int32) : Int32 :=
  let z_146 : Int32 := i15 - (1 : Int32)
  f_m12_joins_j148 a27 160 z_146
noncomputable def f_m12_joins_b_118 (i15 : Int32) (a27 : Nat → Int32) : Int32 :=
  let v_119 : Int32 := (F_m12_top i15 a27)
  if v_119.toInt ≠ 124 then (f_m12_joins_b_125 i15) else (f_m12_joins_b_126 i15 a27)
noncomputable def f_m12_joins_b_115 (p0 : Int32) (i15 : Int32) (a27 : Nat → Int32) : Int32 :=
  if p0.toInt = 0 then (f_m12_joins_b_117 i15) else (f_m12_joins_b_118 i15 a27)
noncomputable def F_m12_joins (p0 : Int32) (i15 : Int32) (a27 : Nat → Int32) : Int32 :=
  let v_4 : Int32 := (F_m12_top i15 a27)
  if v_4.toInt = 38 then (f_m12_joins_b_10 p0 i15 a27) else (f_m12_joins_b_115 p0 i15 a27)
noncomputable def f_m12_ends_b_10 (i14 : Int32) (i15 : Int32) : Int32 × Int32 :=
  (i14, i15)
noncomputable def f_m12_ends_b_57 (i14_30 : Int32) (i15_31 : Int32) : Int32 × Int32 :=
  (i14_30, i15_31)
noncomputable def f_m12_ends_b_58 (i14_30 : Int32) (i15_31 : Int32) (self_J_28 : Int32 → Int32 → Int32 × Int32) : Int32 × Int32 :=
  let z_72 : Int32 := i15_31 - (1 : Int32)
  let z_74 : Int32 := i14_30 - (1 : Int32)
  self_J_28 z_74 z_72
noncomputable def f_m12_ends_J_28 (a27 : Nat → Int32) (i14_30 : Int32) (i15_31 : Int32) (self_J_28 : Int32 → Int32 → Int32 × Int32) : Int32 × Int32 :=
  let v_51 : Int32 := (F_m12_top i15_31 a27)
  if v_51.toInt ≠ 33 then (f_m12_ends_b_57 i14_30 i15_31) else (f_m12_ends_b_58 i14_30 i15_31 self_J_28)
noncomputable def f_m12_ends_j28 (a27 : Nat → Int32) (n : Nat) : Int32 → Int32 → Int32 × Int32 :=
  Nat.rec (motive := fun _ => Int32 → Int32 → Int32 × Int32) (fun _ _ => (0, 0)) (fun _ sq_ i14_30 i15_31 => f_m12_ends_J_28 a27 i14_30 i15_31 sq_) n
noncomputable def f_m12_ends_b_11 (i14 : Int32) (i15 : Int32) (a27 : Nat → Int32) : Int32 × Int32 :=
  let z_25 : Int32 := i15 - (1 : Int32)
  let z_27 : Int32 := i14 - (1 : Int32)
  f_m12_ends_j28 a27 160 z_27 z_25
