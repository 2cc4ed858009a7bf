noncomputable def f_m12_rules_b_167 (p3 : Int32) (a1 : Nat → Int32) (self_J_52 : Int32 → Int32 → Int32 → Int32 → Int32 → Int32 → Int32 → Int32 → (Nat → Int32) → (Nat → Int32) → (Nat → Int32) → (Nat → Int32) → (Nat → Int32) → Int32 × Int32 × Int32 × Int32 × Int32 × Int32 × Int32 × Int32 × Int32 × Int32 × Int32 × (Nat → Int32) × (Nat → Int32) × (Nat → Int32) × (Nat → Int32) × (Nat → Int32) × (Nat → Int32) × (Nat → Int32) × (Nat → Int32) × (Nat → Int32)) (i9_112 : Int32) (i11_113 : Int32) (i12_114 : Int32) (i14_116 : Int32) (i15_117 : Int32) (i16_118 : Int32) (i17_119 : Int32) (a19_120 : Nat → Int32) (a20_121 : Nat → Int32) (a21_122 : Nat → Int32) (a22_123 : Nat → Int32) (a27_127 : Nat → Int32) : Int32 × Int32 × Int32 × Int32 × Int32 × Int32 × Int32 × Int32 × Int32 × Int32 × Int32 × (Nat → Int32) × (Nat → Int32) × (Nat → Int32) × (Nat → Int32) × (Nat → Int32) × (Nat → Int32) × (Nat → Int32) × (Nat → Int32) × (Nat → Int32) :=
  (f_m12_rules_b_169 p3 a1 self_J_52 i9_112 i11_113 i12_114 i14_116 i15_117 i16_118 i17_119 a19_120 a20_121 a21_122 a22_123 a27_127)
noncomputable def f_m12_rules_b_162 (p3 : Int32) (a1 : Nat → Int32) (self_J_52 : Int32 → Int32 → Int32 → Int32 → Int32 → Int32 → Int32 → Int32 → (Nat → Int32) → (Nat → Int32) → (Nat → Int32) → (Nat → Int32) → (Nat → Int32) → Int32 × Int32 × Int32 × Int32 × Int32 × Int32 × Int32 × Int32 × Int32 × Int32 × Int32 × (Nat → Int32) × (Nat → Int32) × (Nat → Int32) × (Nat → Int32) × (Nat → Int32) × (Nat → Int32) × (Nat → Int32) × (Nat → Int32) × (Nat → Int32)) (i9_112 : Int32) (i11_113 : Int32) (i12_114 : Int32) (i14_116 : Int32) (i15_117 : Int32) (i16_118 : Int32) (i17_119 : Int32) (a19_120 : Nat → Int32) (a20_121 : Nat → Int32) (a21_122 : Nat → Int32) (a22_123 : Nat → Int32) (a27_127 : Nat → Int32) : Int32 × Int32 × Int32 × Int32 × Int32 × Int32 × Int32 × Int32 × Int32 × Int32 × Int32 × (Nat → Int32) × (Nat → Int32) × (Nat → Int32) × (Nat → Int32) × (Nat → Int32) × (Nat → Int32) × (Nat → Int32) × (Nat → Int32) × (Nat → Int32) :=
  if i9_112.toInt ≥ p3.toInt then (f_m12_rules_b_164 self_J_52 i9_112 i11_113 i12_114 i14_116 i15_117 i16_118 i17_119 a19_120 a20_121 a21_122 a22_123 a27_127) else (f_m12_rules_b_167 p3 a1 self_J_52 i9_112 i11_113 i12_114 i14_116 i15_117 i16_118 i17_119 a19_120 a20_121 a21_122 a22_123 a27_127)
noncomputable def f_m12_rules_b_108 (p3 : Int32) (i6 : Int32) (a1 : Nat → Int32) (i9_55 : Int32) (i11_56 : Int32) (i12_57 : Int32) (i14_59 : Int32) (i15_60 : Int32) (i16_61 : Int32) (i17_62 : Int32) (a19_63 : Nat → Int32) (a20_64 : Nat → Int32) (a21_65 : Nat → Int32) (a22_66 : Nat → Int32) (a27_70 : Nat → Int32) (self_J_52 : Int32 → Int32 → Int32 → Int32 → Int32 → Int32 → Int32 → Int32 → (Nat → Int32) → (Nat → Int32) → (Nat → Int32) → (Nat → Int32) → (Nat → Int32) → Int32 × Int32 × Int32 × Int32 × Int32 × Int32 × Int32 × Int32 × Int32 × Int32 × Int32 × (Nat → Int32) × (Nat → Int32) × (Nat → Int32) × (Nat → Int32) × (Nat → Int32) × (Nat → Int32) × (Nat → Int32) × (Nat → Int32) × (Nat → Int32)) : Int32 × Int32 × Int32 × Int32 × Int32 × Int32 × Int32 × Int32 × Int32 × Int32 × Int32 × (Nat → Int32) × (Nat → Int32) × (Nat → Int32) × (Nat → Int32) × (Nat → Int32) × (Nat → Int32) × (Nat → Int32) × (Nat → Int32) × (Nat → Int32) :=
  let i9_112 : Int32 := (F_m12_clause i6 i9_55 p3 i11_56 i12_57 i14_59 i15_60 i16_61 i17_62 a1 a19_63 a20_64 a21_65 a22_66 a27_70).1
  let i11_113 : Int32 := (F_m12_clause i6 i9_55 p3 i11_56 i12_57 i14_59 i15_60 i16_61 i17_62 a1 a19_63 a20_64 a21_65 a22_66 a27_70).2.1
  let i12_114 : Int32 := (F_m12_clause i6 i9_55 p3 i11_56 i12_57 i14_59 i15_60 i16_61 i17_62 a1 a19_63 a20_64 a21_65 a22_66 a27_70).2.2.1
  let i14_116 : Int32 := (F_m12_clause i6 i9_55 p3 i11_56 i12_57 i14_59 i15_60 i16_61 i17_62 a1 a19_63 a20_64 a21_65 a22_66 a27_70).2.2.2.1
  let i15_117 : Int32 := (F_m12_clause i6 i9_55 p3 i11_56 i12_57 i14_59 i15_60 i16_61 i17_62 a1 a19_63 a20_64 a21_65 a22_66 a27_70).2.2.2.2.1
  let i16_118 : Int32 := (F_m12_clause i6 i9_55 p3 i11_56 i12_57 i14_59 i15_60 i16_61 i17_62 a1 a19_63 a20_64 a21_65 a22_66 a27_70).2.2.2.2.2.1
  let i17_119 : Int32 := (F_m12_clause i6 i9_55 p3 i11_56 i12_57 i14_59 i15_60 i16_61 i17_62 a1 a19_63 a20_64 a21_65 a22_66 a27_70).2.2.2.2.2.2.1
  let a19_120 : Nat → Int32 := (F_m12_clause i6 i9_55 p3 i11_56 i12_57 i14_59 i15_60 i16_61 i17_62 a1 a19_63 a20_64 a21_65 a22_66 a27_70).2.2.2.2.2.2.2.1
  let a20_121 : Nat → Int32 := (F_m12_clause i6 i9_55 p3 i11_56 i12_57 i14_59 i15_60 i16_61 i17_62 a1 a19_63 a20_64 a21_65 a22_66 a27_70).2.2.2.2.2.2.2.2.1
  let a21_122 : Nat → Int32 := (F_m12_clause i6 i9_55 p3 i11_56 i12_57 i14_59 i15_60 i16_61 i17_62 a1 a19_63 a20_64 a21_65 a22_66 a27_70).2.2.2.2.2.2.2.2.2.1
  let a22_123 : Nat → Int32 := (F_m12_clause i6 i9_55 p3 i11_56 i12_57 i14_59 i15_60 i16_61 i17_62 a1 a19_63 a20_64 a21_65 a22_66 a27_70).2.2.2.2.2.2.2.2.2.2.1
  let a27_127 : Nat → Int32 := (F_m12_clause i6 i9_55 p3 i11_56 i12_57 i14_59 i15_60 i16_61 i17_62 a1 a19_63 a20_64 a21_65 a22_66 a27_70).2.2.2.2.2.2.2.2.2.2.2
  let v_153 : Int32 := (F_m12_isGood i11_113)
  if v_153.toInt = 0 then (f_m12_rules_b_159 self_J_52 i9_112 i11_113 i12_114 i14_116 i15_117 i16_118 i17_119 a19_120 a20_121 a21_122 a22_123 a27_127) else (f_m12_rules_b_162 p3 a1 self_J_52 i9_112 i11_113 i12_114 i14_116 i15_117 i16_118 i17_119 a19_120 a20_121 a21_122 a22_123 a27_127)
noncomputable def f_m12_rules_b_100 (p0 : Int32) (p1 : Int32) (p2 : Int32) (p3 : Int32) (i6 : Int32) (a1 : Nat → Int32) (a15 : Nat → Int32) (a16 : Nat → Int32) (a17 : Nat → Int32) (a18 : Nat → Int32) (i9_55 : Int32) (i11_56 : Int32) (i12_57 : Int32) (i14_59 : Int32) (i15_60 : Int32) (i16_61 : Int32) (i17_62 : Int32) (a19_63 : Nat → Int32) (a20_64 : Nat → Int32) (a21_65 : Nat → Int32) (a22_66 : Nat → Int32) (a27_70 : Nat → Int32) (self_J_52 : Int32 → Int32 → Int32 → Int32 → Int32 → Int32 → Int32 → Int32 → (Nat → Int32) → (Nat → Int32) → (Nat → Int32) → (Nat → Int32) → (Nat → Int32) → Int32 × Int32 × Int32 × Int32 × Int32 × Int32 × Int32 × Int32 × Int32 × Int32 × Int32 × (Nat → Int32) × (Nat → Int32) × (Nat → Int32) × (Nat → Int32) × (Nat → Int32) × (Nat → Int32) × (Nat → Int32) × (Nat → Int32) × (Nat → Int32)) : Int32 × Int32 × Int32 × Int32 × Int32 × Int32 × Int32 × Int32 × Int32 × Int32 × Int32 × (Nat → Int32) × (Nat → Int32) × (Nat → Int32) × (Nat → Int32) × (Nat → Int32) × (Nat → Int32) × (Nat → Int32) × (Nat → Int32) × (Nat → Int32) :=
  let v_101 : Int32 := (F_m12_isGood i11_56)
  if v_101.toInt = 0 then (f_m12_rules_b_107 p0 p1 p2 p3 i6 a15 a16 a17 a18 i9_55 i11_56 i12_57 i14_59 i15_60 i16_61 i17_62 a19_63 a20_64 a21_65 a22_66 a27_70) else (f_m12_rules_b_108 p3 i6 a1 i9_55 i11_56 i12_57 i14_59 i15_60 i16_61 i17_62 a19_63 a20_64 a21_65 a22_66 a27_70 self_J_52)
noncomputable def f_m12_rules_J_52 (p0 : Int32) (p1 : Int32) (p2 : Int32) (p3 : Int32) (i6 : Int32) (a1 : Nat → Int32) (a15 : Nat → Int32) (a16 : Nat → Int32) (a17 : Nat → Int32) (a18 : Nat → Int32) (x_53 : Int32) (i9_55 : Int32) (i11_56 : Int32) (i12_57 : Int32) (i14_59 : Int32) (i15_60 : Int32) (i16_61 : Int32) (i17_62 : Int32) (a19_63 : Nat → Int32) (a20_64 : Nat → Int32) (a21_65 : Nat → Int32) (a22_66 : Nat → Int32) (a27_70 : Nat → Int32) (self_J_52 : Int32 → Int32 → Int32 → Int32 → Int32 → Int32 → Int32 → Int32 → (Nat → Int32) → (Nat → Int32) → (Nat → Int32) → (Nat → Int32) → (Nat → Int32) → Int32 × Int32 × Int32 × Int32 × Int32 × Int32 × Int32 × Int32 × Int32 × Int32 × Int32 × (Nat → Int32) × (Nat → Int32) × (Nat → Int32) × (Nat → Int32) × (Nat → Int32) × (Nat → Int32) × (Nat → Int32) × (Nat → Int32) × (Nat → Int32)) : Int32 × Int32 × Int32 × Int32 × Int32 × Int32 × Int32 × Int32 × Int32 × Int32 × Int32 × (Nat → Int32) × (Nat → Int32) × (Nat → Int32) × (Nat → Int32) × (Nat → Int32) × (Nat → Int32) × (Nat → Int32) × (Nat → Int32) × (Nat → Int32) :=
  if x_53.toInt = 0 then (f_m12_rules_b_99 p0 p1 p2 p3 i6 a15 a16 a17 a18 i9_55 i11_56 i12_57 i14_59 i15_60 i16_61 i17_62 a19_63 a20_64 a21_65 a22_66 a27_70) else (f_m12_rules_b_100 p0 p1 p2 p3 i6 a1 a15 a16 a17 a18 i9_55 i11_56 i12_57 i14_59 i15_60 i16_61 i17_62 a19_63 a20_64 a21_65 a22_66 a27_70 self_J_52)
noncomputable def f_m12_rules_j52 (p0 : Int32) (p1 : Int32) (p2 : Int32) (p3 : Int32) (i6 : Int32) (a1 : Nat → Int32) (a15 : Nat → Int32) (a16 : Nat → Int32) (a17 : Nat → Int32) (a18 : Nat → Int32) (n : Nat) : Int32 → Int32 → Int32 → Int32 → Int32 → Int32 → Int32 → Int32 → (Nat → Int32) → (Nat → Int32) → (Nat → Int32) → (Nat → Int32) → (Nat → Int32) → Int32 × Int32 × Int32 × Int32 × Int32 × Int32 × Int32 × Int32 × Int32 × Int32 × Int32 × (Nat → Int32) × (Nat → Int32) × (Nat → Int32) × (Nat → Int32) × (Nat → Int32) × (Nat → Int32) × (Nat → Int32) × (Nat → Int32) × (Nat → Int32) :=
  Nat.rec (motive := fun _ => Int32 → Int32 → Int32 → Int32 → Int32 → Int32 → Int32 → Int32 → (Nat → Int32) → (Nat → Int32) → (Nat → Int32) → (Nat → Int32) → (Nat → Int32) → Int32 × Int32 × Int32 × Int32 × Int32 × Int32 × Int32 × Int32 × Int32 × Int32 × Int32 × (Nat → Int32) × (Nat → Int32) × (Nat → Int32) × (Nat → Int32) × (Nat → Int32) × (Nat → Int32) × (Nat → Int32) × (Nat → Int32) × (Nat → Int32)) (fun _ _ _ _ _ _ _ _ _ _ _ _ _ => (0, 0, 0, 0, 0, 0, 0, 0, 0, 0, 0, (fun _ => 0), (fun _ => 0), (fun _ => 0), (fun _ => 0), (fun _ => 0), (fun _ => 0), (fun _ => 0), (fun _ => 0), (fun _ => 0))) (fun _ sq_ x_53 i9_55 i11_56 i12_57 i14_59 i15_60 i16_61 i17_62 a19_63 a20_64 a21_65 a22_66 a27_70 => f_m12_rules_J_52 p0 p1 p2 p3 i6 a1 a15 a16 a17 a18 x_53 i9_55 i11_56 i12_57 i14_59 i15_60 i16_61 i17_62 a19_63 a20_64 a21_65 a22_66 a27_70 sq_) n
noncomputable def f_m12_rules_b_45 (p0 : Int32) (p1 : Int32) (p2 : Int32) (p3 : Int32) (i6 : Int32) (i14 : Int32) (i15 : Int32) (i16 : Int32) (i17 : Int32) (a1 : Nat → Int32) (a15 : Nat → Int32) (a16 : Nat → Int32) (a17 : Nat → Int32) (a18 : Nat → Int32) (a19 : Nat → Int32) (a20 : Nat → Int32) (a21 : Nat → Int32) (a22 : Nat → Int32) (a27 : Nat → Int32) : Int32 × Int32 × Int32 × Int32 × Int32 × Int32 × Int32 × Int32 × Int32 × Int32 × Int32 × (Nat → Int32) × (Nat → Int32) × (Nat → Int32) × (Nat → Int32) × (Nat → Int32) × (Nat → Int32) × (Nat → Int32) × (Nat → Int32) × (Nat → Int32) :=
  let z_46 : Int32 := (0 : Int32)
  let z_47 : Int32 := (0 : Int32)
  let z_48 : Int32 := (0 : Int32)
  f_m12_rules_j52 p0 p1 p2 p3 i6 a1 a15 a16 a17 a18 1460001 ((1 : Int32)) z_46 z_47 z_48 i14 i15 i16 i17 a19 a20 a21 a22 a27
noncomputable def f_m12_rules_b_182 (i0 : Int32) (i6 : Int32) (i9 : Int32) (i10 : Int32) (i11 : Int32) (i12 : Int32) (i14 : Int32) (i15 : Int32) (i16 : Int32) (i17 : Int32) (a15 : Nat → Int32) (a16 : Nat → Int32) (a17 : Nat → Int32) (a18 : Nat → Int32) (a19 : Nat → Int32) (a20 : Nat → Int32) (a21 : Nat → Int32) (a22 : Nat → Int32) (a27 : Nat → Int32) : Int32 × Int32 × Int32 × Int32 × Int32 × Int32 × Int32 × Int32 × Int32 × Int32 × Int32 × (Nat → Int32) × (Nat → Int32) × (Nat → Int32) × (Nat → Int32) × (Nat → Int32) × (Nat → Int32) × (Nat → Int32) × (Nat → Int32) × (Nat → Int32) :=
  ((-1 : Int32), i0, i6, i9, i10, i11, i12, i14, i15, i16, i17, a15, a16, a17, a18, a19, a20, a21, a22, a27)
noncomputable def f_m12_rules_b_43 (p0 : Int32) (p1 : Int32) (p2 : Int32) (p3 : Int32) (i0 : Int32) (i6 : Int32) (i9 : Int32) (i10 : Int32) (i11 : Int32) (i12 : Int32) (i14 : Int32) (i15 : Int32) (i16 : Int32) (i17 : Int32) (a1 : Nat → Int32) (a15 : Nat → Int32) (a16 : Nat → Int32) (a17 : Nat → Int32) (a18 : Nat → Int32) (a19 : Nat → Int32) (a20 : Nat → Int32) (a21 : Nat → Int32) (a22 : Nat → Int32) (a27 : Nat → Int32) : Int32 × Int32 × Int32 × Int32 × Int32 × Int32 × Int32 × Int32 × Int32 × Int32 × Int32 × (Nat → Int32) × (Nat → Int32) × (Nat → Int32) × (Nat → Int32) × (Nat → Int32) × (Nat → Int32) × (Nat → Int32) × (Nat → Int32) × (Nat → Int32) :=
  if p3.toInt ≤ i0.toInt then (f_m12_rules_b_45 p0 p1 p2 p3 i6 i14 i15 i16 i17 a1 a15 a16 a17 a18 a19 a20 a21 a22 a27) else (f_m12_rules_b_182 i0 i6 i9 i10 i11 i12 i14 i15 i16 i17 a15 a16 a17 a18 a19 a20 a21 a22 a27)
noncomputable def f_m12_rules_b_35 (p0 : Int32) (p1 : Int32) (p2 : Int32) (p3 : Int32) (i0 : Int32) (i6 : Int32) (i9 : Int32) (i10 : Int32) (i11 : Int32) (i12 : Int32) (i14 : Int32) (i15 : Int32) (i16 : Int32) (i17 : Int32) (a1 : Nat → Int32) (a15 : Nat → Int32) (a16 : Nat → Int32) (a17 : Nat → Int32) (a18 : Nat → Int32) (a19 : Nat → Int32) (a20 : Nat → Int32) (a21 : Nat → Int32) (a22 : Nat → Int32) (a27 : Nat → Int32) : Int32 × Int32 × Int32 × Int32 × Int32 × Int32 × Int32 × Int32 × Int32 × Int32 × Int32 × (Nat → Int32) × (Nat → Int32) × (Nat → Int32) × (Nat → Int32) × (Nat → Int32) × (Nat → Int32) × (Nat → Int32) × (Nat → Int32) × (Nat → Int32) :=
  let v_36 : Int32 := (F_m12_lies p3 (1 : Int32) (160 : Int32))
  if v_36.toInt = 0 then (f_m12_rules_b_41 i0 i6 i9 i10 i11 i12 i14 i15 i16 i17 a15 a16 a17 a18 a19 a20 a21 a22 a27) else (f_m12_rules_b_43 p0 p1 p2 p3 i0 i6 i9 i10 i11 i12 i14 i15 i16 i17 a1 a15 a16 a17 a18 a19 a20 a21 a22 a27)
noncomputable def f_m12_rules_b_31 (p0 : Int32) (p1 : Int32) (p2 : Int32) (p3 : Int32) (i0 : Int32) (i6 : Int32) (i9 : Int32) (i10 : Int32) (i11 : Int32) (i12 : Int32) (i14 : Int32) (i15 : Int32) (i16 : Int32) (i17 : Int32) (a1 : Nat → Int32) (a15 : Nat → Int32) (a16 : Nat → Int32) (a17 : Nat → Int32) (a18 : Nat → Int32) (a19 : Nat → Int32) (a20 : Nat → Int32) (a21 : Nat → Int32) (a22 : Nat → Int32) (a27 : Nat → Int32) : Int32 × Int32 × Int32 × Int32 × Int32 × Int32 × Int32 × Int32 × Int32 × Int32 × Int32 × (Nat → Int32) × (Nat → Int32) × (Nat → Int32) × (Nat → Int32) × (Nat → Int32) × (Nat → Int32) × (Nat → Int32) × (Nat → Int32) × (Nat → Int32) :=
  if p2.toInt < p1.toInt then (f_m12_rules_b_33 i0 i6 i9 i10 i11 i12 i14 i15 i16 i17 a15 a16 a17 a18 a19 a20 a21 a22 a27) else (f_m12_rules_b_35 p0 p1 p2 p3 i0 i6 i9 i10 i11 i12 i14 i15 i16 i17 a1 a15 a16 a17 a18 a19 a20 a21 a22 a27)
noncomputable def f_m12_rules_b_22 (p0 : Int32) (p1 : Int32) (p2 : Int32) (p3 : Int32) (i0 : Int32) (i6 : Int32) (i9 : Int32) (i10 : Int32) (i11 : Int32) (i12 : Int32) (i14 : Int32) (i15 : Int32) (i16 : Int32) (i17 : Int32) (a1 : Nat → Int32) (a15 : Nat → Int32) (a16 : Nat → Int32) (a17 : Nat → Int32) (a18 : Nat → Int32) (a19 : Nat → Int32) (a20 : Nat → Int32) (a21 : Nat → Int32) (a22 : Nat → Int32) (a27 : Nat → Int32) : Int32 × Int32 × Int32 × Int32 × Int32 × Int32 × Int32 × Int32 × Int32 × Int32 × Int32 × (Nat → Int32) × (Nat → Int32) × (Nat → Int32) × (Nat → Int32) × (Nat → Int32) × (Nat → Int32) × (Nat → Int32) × (Nat → Int32) × (Nat → Int32) :=
  let v_23 : Int32 := (F_m12_isDay p2)
  if v_23.toInt = 0 then (f_m12_rules_b_29 i0 i6 i9 i10 i11 i12 i14 i15 i16 i17 a15 a16 a17 a18 a19 a20 a21 a22 a27) else (f_m12_rules_b_31 p0 p1 p2 p3 i0 i6 i9 i10 i11 i12 i14 i15 i16 i17 a1 a15 a16 a17 a18 a19 a20 a21 a22 a27)
noncomputable def f_m12_rules_b_13 (p0 : Int32) (p1 : Int32) (p2 : Int32) (p3 : Int32) (i0 : Int32) (i6 : Int32) (i9 : Int32) (i10 : Int32) (i11 : Int32) (i12 : Int32) (i14 : Int32) (i15 : Int32) (i16 : Int32) (i17 : Int32) (a1 : Nat → Int32) (a15 : Nat → Int32) (a16 : Nat → Int32) (a17 : Nat → Int32) (a18 : Nat → Int32) (a19 : Nat → Int32) (a20 : Nat → Int32) (a21 : Nat → Int32) (a22 : Nat → Int32) (a27 : Nat → Int32) : Int32 × Int32 × Int32 × Int32 × Int32 × Int32 × Int32 × Int32 × Int32 × Int32 × Int32 × (Nat → Int32) × (Nat → Int32) × (Nat → Int32) × (Nat → Int32) × (Nat → Int32) × (Nat → Int32) × (Nat → Int32) × (Nat → Int32) × (Nat → Int32) :=
  let v_14 : Int32 := (F_m12_isDay p1)
  if v_14.toInt = 0 then (f_m12_rules_b_20 i0 i6 i9 i10 i11 i12 i14 i15 i16 i17 a15 a16 a17 a18 a19 a20 a21 a22 a27) else (f_m12_rules_b_22 p0 p1 p2 p3 i0 i6 i9 i10 i11 i12 i14 i15 i16 i17 a1 a15 a16 a17 a18 a19 a20 a21 a22 a27)
noncomputable def f_m12_rules_b_4 (p0 : Int32) (p1 : Int32) (p2 : Int32) (p3 : Int32) (i0 : Int32) (i4 : Int32) (i6 : Int32) (i9 : Int32) (i10 : Int32) (i11 : Int32) (i12 : Int32) (i14 : Int32) (i15 : Int32) (i16 : Int32) (i17 : Int32) (a1 : Nat → Int32) (a15 : Nat → Int32) (a16 : Nat → Int32) (a17 : Nat → Int32) (a18 : Nat → Int32) (a19 : Nat → Int32) (a20 : Nat → Int32) (a21 : Nat → Int32) (a22 : Nat → Int32) (a27 : Nat → Int32) : Int32 × Int32 × Int32 × Int32 × Int32 × Int32 × Int32 × Int32 × Int32 × Int32 × Int32 × (Nat → Int32) × (Nat → Int32) × (Nat → Int32) × (Nat → Int32) × (Nat → Int32) × (Nat → Int32) × (Nat → Int32) × (Nat → Int32) × (Nat → Int32) :=
  let z_5 : Int32 := i4 - (1 : Int32)
  let v_6 : Int32 := (F_m12_lies p0 (-1 : Int32) z_5)
  if v_6.toInt = 0 then (f_m12_rules_b_11 i0 i6 i9 i10 i11 i12 i14 i15 i16 i17 a15 a16 a17 a18 a19 a20 a21 a22 a27) else (f_m12_rules_b_13 p0 p1 p2 p3 i0 i6 i9 i10 i11 i12 i14 i15 i16 i17 a1 a15 a16 a17 a18 a19 a20 a21 a22 a27)
noncomputable def F_m12_rules (p0 : Int32) (p1 : Int32) (p2 : Int32) (p3 : Int32) (i0 : Int32) (i4 : Int32) (i6 : Int32) (i9 : Int32) (i10 : Int32) (i11 : Int32) (i12 : Int32) (i14 : Int32) (i15 : Int32) (i16 : Int32) (i17 : Int32) (a1 : Nat → Int32) (a15 : Nat → Int32) (a16 : Nat → Int32) (a17 : Nat → Int32) (a18 : Nat → Int32) (a19 : Nat → Int32) (a20 : Nat → Int32) (a21 : Nat → Int32) (a22 : Nat → Int32) (a27 : Nat → Int32) : Int32 × Int32 × Int32 × Int32 × Int32 × Int32 × Int32 × Int32 × Int32 × Int32 × Int32 × (Nat → Int32) × (Nat → Int32) × (Nat → Int32) × (Nat → Int32) × (Nat → Int32) × (Nat → Int32) × (Nat → Int32) × (Nat → Int32) × (Nat → Int32) :=
  if i6.toInt = 20 then (f_m12_rules_b_2 i0 i6 i9 i10 i11 i12 i14 i15 i16 i17 a15 a16 a17 a18 a19 a20 a21 a22 a27) else (f_m12_rules_b_4 p0 p1 p2 p3 i0 i4 i6 i9 i10 i11 i12 i14 i15 i16 i17 a1 a15 a16 a17 a18 a19 a20 a21 a22 a27)
noncomputable def f_m12_lastOf_b_7  : Int32 :=
  (-1 : Int32)
noncomputable def f_m12_lastOf_b_30 (x_3 : Int32) (self_J_2 : Int32 → Int32) : Int32 :=
  let z_31 : Int32 := x_3 + Int32.ofInt (-1)
  self_J_2 z_31
noncomputable def f_m12_lastOf_b_35 (x_22 : Int32) (self_J_21 : Int32 → Int32) : Int32 :=
  let z_36 : Int32 := x_22 + Int32.ofInt (-1)
  self_J_21 z_36
noncomputable def f_m12_lastOf_b_39 (x_22 : Int32) : Int32 :=
  x_22
noncomputable def f_m12_lastOf_b_45 (x_22 : Int32) (self_J_21 : Int32 → Int32) : Int32 :=
  let z_46 : Int32 := x_22 + Int32.ofInt (-1)
  self_J_21 z_46
noncomputable def f_m12_lastOf_b_47 (x_22 : Int32) : Int32 :=
  x_22
noncomputable def f_m12_lastOf_b_42 (p1 : Int32) (a20 : Nat → Int32) (x_22 : Int32) (self_J_21 : Int32 → Int32) : Int32 :=
  let z_43 : Int32 := a20 x_22.toNatClampNeg
  if z_43.toInt ≠ p1.toInt then (f_m12_lastOf_b_45 x_22 self_J_21) else (f_m12_lastOf_b_47 x_22)
noncomputable def f_m12_lastOf_b_37 (p0 : Int32) (p1 : Int32) (a20 : Nat → Int32) (x_22 : Int32) (self_J_21 : Int32 → Int32) : Int32 :=
  if p0.toInt ≠ 118 then (f_m12_lastOf_b_39 x_22) else (f_m12_lastOf_b_42 p1 a20 x_22 self_J_21)
noncomputable def f_m12_lastOf_b_32 (p0 : Int32) (p1 : Int32) (a19 : Nat → Int32) (a20 : Nat → Int32) (x_22 : Int32) (self_J_21 : Int32 → Int32) : Int32 :=
  let z_33 : Int32 := a19 x_22.toNatClampNeg
  if z_33.toInt ≠ p0.toInt then (f_m12_lastOf_b_35 x_22 self_J_21) else (f_m12_lastOf_b_37 p0 p1 a20 x_22 self_J_21)
noncomputable def f_m12_lastOf_J_21 (p0 : Int32) (p1 : Int32) (a19 : Nat → Int32) (a20 : Nat → Int32) (x_3 : Int32) (self_J_2 : Int32 → Int32) (x_22 : Int32) (self_J_21 : Int32 → Int32) : Int32 :=
  let z_28 : Int32 := (16 : Int32) * x_3
  if x_22.toInt < z_28.toInt then (f_m12_lastOf_b_30 x_3 self_J_2) else (f_m12_lastOf_b_32 p0 p1 a19 a20 x_22 self_J_21)
noncomputable def f_m12_lastOf_j21 (p0 : Int32) (p1 : Int32) (a19 : Nat → Int32) (a20 : Nat → Int32) (x_3 : Int32) (self_J_2 : Int32 → Int32) (n : Nat) : Int32 → Int32 :=
  Nat.rec (motive := fun _ => Int32 → Int32) (fun _ => 0) (fun _ sq_ x_22 => f_m12_lastOf_J_21 p0 p1 a19 a20 x_3 self_J_2 x_22 sq_) n
noncomputable def f_m12_lastOf_b_16 (p0 : Int32) (p1 : Int32) (a18 : Nat → Int32) (a19 : Nat → Int32) (a20 : Nat → Int32) (x_3 : Int32) (self_J_2 : Int32 → Int32) : Int32 :=
  let z_17 : Int32 := (16 : Int32) * x_3
  let z_18 : Int32 := a18 x_3.toNatClampNeg
  let z_19 : Int32 := z_17 + z_18
  let z_20 : Int32 := z_19 - (1 : Int32)
  f_m12_lastOf_j21 p0 p1 a19 a20 x_3 self_J_2 17 z_20
noncomputable def f_m12_lastOf_b_50 (x_3 : Int32) (self_J_2 : Int32 → Int32) : Int32 :=
  let z_51 : Int32 := x_3 + Int32.ofInt (-1)
  self_J_2 z_51
noncomputable def f_m12_lastOf_b_9 (p0 : Int32) (p1 : Int32) (p2 : Int32) (p3 : Int32) (i4 : Int32) (a2 : Nat → Int32) (a8 : Nat → Int32) (a15 : Nat → Int32) (a16 : Nat → Int32) (a17 : Nat → Int32) (a18 : Nat → Int32) (a19 : Nat → Int32) (a20 : Nat → Int32) (x_3 : Int32) (self_J_2 : Int32 → Int32) : Int32 :=
  let v_10 : Int32 := (F_m12_isInForce x_3 p2 p3 i4 a2 a8 a15 a16 a17)
  if v_10.toInt ≠ 0 then (f_m12_lastOf_b_16 p0 p1 a18 a19 a20 x_3 self_J_2) else (f_m12_lastOf_b_50 x_3 self_J_2)
noncomputable def f_m12_lastOf_J_2 (p0 : Int32) (p1 : Int32) (p2 : Int32) (p3 : Int32) (i4 : Int32) (a2 : Nat → Int32) (a8 : Nat → Int32) (a15 : Nat → Int32) (a16 : Nat → Int32) (a17 : Nat → Int32) (a18 : Nat → Int32) (a19 : Nat → Int32) (a20 : Nat → Int32) (x_3 : Int32) (self_J_2 : Int32 → Int32) : Int32 :=
  if x_3.toInt < 0 then f_m12_lastOf_b_7 else (f_m12_lastOf_b_9 p0 p1 p2 p3 i4 a2 a8 a15 a16 a17 a18 a19 a20 x_3 self_J_2)
noncomputable def f_m12_lastOf_j2 (p0 : Int32) (p1 : Int32) (p2 : Int32) (p3 : Int32) (i4 : Int32) (a2 : Nat → Int32) (a8 : Nat → Int32) (a15 : Nat → Int32) (a16 : Nat → Int32) (a17 : Nat → Int32) (a18 : Nat → Int32) (a19 : Nat → Int32) (a20 : Nat → Int32) (n : Nat) : Int32 → Int32 :=
  Nat.rec (motive := fun _ => Int32 → Int32) (fun _ => 0) (fun _ sq_ x_3 => f_m12_lastOf_J_2 p0 p1 p2 p3 i4 a2 a8 a15 a16 a17 a18 a19 a20 x_3 sq_) n
noncomputable def F_m12_lastOf (p0 : Int32) (p1 : Int32) (p2 : Int32) (p3 : Int32) (i4 : Int32) (i6 : Int32) (a2 : Nat → Int32) (a8 : Nat → Int32) (a15 : Nat → Int32) (a16 : Nat → Int32) (a17 : Nat → Int32) (a18 : Nat → Int32) (a19 : Nat → Int32) (a20 : Nat → Int32) : Int32 :=
  let z_1 : Int32 := i6 - (1 : Int32)
  f_m12_lastOf_j2 p0 p1 p2 p3 i4 a2 a8 a15 a16 a17 a18 a19 a20 21 z_1
noncomputable def f_m12_copyOf_b_37  : Int32 :=
  (-1 : Int32)
noncomputable def f_m12_copyOf_b_39  : Int32 :=
  (2 : Int32)
noncomputable def f_m12_copyOf_b_33 (a4 : Nat → Int32) (z_25 : Int32) : Int32 :=
  let z_34 : Int32 := z_25 + (2 : Int32)
  let z_35 : Int32 := a4 z_34.toNatClampNeg
  if z_35.toInt ≤ 0 then f_m12_copyOf_b_37 else f_m12_copyOf_b_39
noncomputable def f_m12_copyOf_b_41  : Int32 :=
  (1 : Int32)
noncomputable def f_m12_copyOf_b_29 (a4 : Nat → Int32) (z_25 : Int32) : Int32 :=
  let z_30 : Int32 := z_25 + (1 : Int32)
  let z_31 : Int32 := a4 z_30.toNatClampNeg
  if z_31.toInt ≤ 0 then (f_m12_copyOf_b_33 a4 z_25) else f_m12_copyOf_b_41
noncomputable def f_m12_copyOf_b_43  : Int32 :=
  (0 : Int32)
noncomputable def f_m12_copyOf_b_24 (p0 : Int32) (a4 : Nat → Int32) : Int32 :=
  let z_25 : Int32 := (3 : Int32) * p0
  let z_26 : Int32 := z_25 + (0 : Int32)
  let z_27 : Int32 := a4 z_26.toNatClampNeg
  if z_27.toInt ≤ 0 then (f_m12_copyOf_b_29 a4 z_25) else f_m12_copyOf_b_43
noncomputable def f_m12_copyOf_b_21 (p0 : Int32) (a4 : Nat → Int32) : Int32 :=
  (f_m12_copyOf_b_24 p0 a4)
noncomputable def f_m12_copyOf_b_62  : Int32 :=
  (-1 : Int32)
noncomputable def f_m12_copyOf_b_64  : Int32 :=
  (1 : Int32)
noncomputable def f_m12_copyOf_b_58 (a4 : Nat → Int32) (z_50 : Int32) : Int32 :=
  let z_59 : Int32 := z_50 + (1 : Int32)
  let z_60 : Int32 := a4 z_59.toNatClampNeg
  if z_60.toInt ≤ 0 then f_m12_copyOf_b_62 else f_m12_copyOf_b_64
noncomputable def f_m12_copyOf_b_66  : Int32 :=
  (2 : Int32)
noncomputable def f_m12_copyOf_b_54 (a4 : Nat → Int32) (z_50 : Int32) : Int32 :=
  let z_55 : Int32 := z_50 + (2 : Int32)
  let z_56 : Int32 := a4 z_55.toNatClampNeg
  if z_56.toInt ≤ 0 then (f_m12_copyOf_b_58 a4 z_50) else f_m12_copyOf_b_66
noncomputable def f_m12_copyOf_b_68  : Int32 :=
  (0 : Int32)
noncomputable def f_m12_copyOf_b_49 (p0 : Int32) (a4 : Nat → Int32) : Int32 :=
  let z_50 : Int32 := (3 : Int32) * p0
  let z_51 : Int32 := z_50 + (0 : Int32)
  let z_52 : Int32 := a4 z_51.toNatClampNeg
  if z_52.toInt ≤ 0 then (f_m12_copyOf_b_54 a4 z_50) else f_m12_copyOf_b_68
noncomputable def f_m12_copyOf_b_46 (p0 : Int32) (a4 : Nat → Int32) : Int32 :=
  (f_m12_copyOf_b_49 p0 a4)
noncomputable def f_m12_copyOf_b_18 (p0 : Int32) (a4 : Nat → Int32) (z_12 : Int32) : Int32 :=
  if z_12.toInt = 1 then (f_m12_copyOf_b_21 p0 a4) else (f_m12_copyOf_b_46 p0 a4)
noncomputable def f_m12_copyOf_b_90  : Int32 :=
  (-1 : Int32)
noncomputable def f_m12_copyOf_b_92  : Int32 :=
  (2 : Int32)
noncomputable def f_m12_copyOf_b_86 (a4 : Nat → Int32) (z_78 : Int32) : Int32 :=
  let z_87 : Int32 := z_78 + (2 : Int32)
  let z_88 : Int32 := a4 z_87.toNatClampNeg
  if z_88.toInt ≤ 0 then f_m12_copyOf_b_90 else f_m12_copyOf_b_92
noncomputable def f_m12_copyOf_b_94  : Int32 :=
  (0 : Int32)
noncomputable def f_m12_copyOf_b_82 (a4 : Nat → Int32) (z_78 : Int32) : Int32 :=
  let z_83 : Int32 := z_78 + (0 : Int32)
  let z_84 : Int32 := a4 z_83.toNatClampNeg
  if z_84.toInt ≤ 0 then (f_m12_copyOf_b_86 a4 z_78) else f_m12_copyOf_b_94
noncomputable def f_m12_copyOf_b_96  : Int32 :=
  (1 : Int32)
noncomputable def f_m12_copyOf_b_77 (p0 : Int32) (a4 : Nat → Int32) : Int32 :=
  let z_78 : Int32 := (3 : Int32) * p0
  let z_79 : Int32 := z_78 + (1 : Int32)
  let z_80 : Int32 := a4 z_79.toNatClampNeg
  if z_80.toInt ≤ 0 then (f_m12_copyOf_b_82 a4 z_78) else f_m12_copyOf_b_96
noncomputable def f_m12_copyOf_b_74 (p0 : Int32) (a4 : Nat → Int32) : Int32 :=
  (f_m12_copyOf_b_77 p0 a4)
noncomputable def f_m12_copyOf_b_115  : Int32 :=
  (-1 : Int32)
noncomputable def f_m12_copyOf_b_117  : Int32 :=
  (0 : Int32)
noncomputable def f_m12_copyOf_b_111 (a4 : Nat → Int32) (z_103 : Int32) : Int32 :=
  let z_112 : Int32 := z_103 + (0 : Int32)
  let z_113 : Int32 := a4 z_112.toNatClampNeg
  if z_113.toInt ≤ 0 then f_m12_copyOf_b_115 else f_m12_copyOf_b_117
noncomputable def f_m12_copyOf_b_119  : Int32 :=
  (2 : Int32)
noncomputable def f_m12_copyOf_b_107 (a4 : Nat → Int32) (z_103 : Int32) : Int32 :=
  let z_108 : Int32 := z_103 + (2 : Int32)
  let z_109 : Int32 := a4 z_108.toNatClampNeg
  if z_109.toInt ≤ 0 then (f_m12_copyOf_b_111 a4 z_103) else f_m12_copyOf_b_119
noncomputable def f_m12_copyOf_b_121  : Int32 :=
  (1 : Int32)
noncomputable def f_m12_copyOf_b_102 (p0 : Int32) (a4 : Nat → Int32) : Int32 :=
  let z_103 : Int32 := (3 : Int32) * p0
  let z_104 : Int32 := z_103 + (1 : Int32)
  let z_105 : Int32 := a4 z_104.toNatClampNeg
  if z_105.toInt ≤ 0 then (f_m12_copyOf_b_107 a4 z_103) else f_m12_copyOf_b_121
noncomputable def f_m12_copyOf_b_99 (p0 : Int32) (a4 : Nat → Int32) : Int32 :=
  (f_m12_copyOf_b_102 p0 a4)
