noncomputable def f_m12_copyOf_b_71 (p0 : Int32) (a4 : Nat → Int32) (z_12 : Int32) : Int32 :=
  if z_12.toInt = 0 then (f_m12_copyOf_b_74 p0 a4) else (f_m12_copyOf_b_99 p0 a4)
noncomputable def f_m12_copyOf_b_143  : Int32 :=
  (-1 : Int32)
noncomputable def f_m12_copyOf_b_145  : Int32 :=
  (1 : Int32)
noncomputable def f_m12_copyOf_b_139 (a4 : Nat → Int32) (z_131 : Int32) : Int32 :=
  let z_140 : Int32 := z_131 + (1 : Int32)
  let z_141 : Int32 := a4 z_140.toNatClampNeg
  if z_141.toInt ≤ 0 then f_m12_copyOf_b_143 else f_m12_copyOf_b_145
noncomputable def f_m12_copyOf_b_147  : Int32 :=
  (0 : Int32)
noncomputable def f_m12_copyOf_b_135 (a4 : Nat → Int32) (z_131 : Int32) : Int32 :=
  let z_136 : Int32 := z_131 + (0 : Int32)
  let z_137 : Int32 := a4 z_136.toNatClampNeg
  if z_137.toInt ≤ 0 then (f_m12_copyOf_b_139 a4 z_131) else f_m12_copyOf_b_147
noncomputable def f_m12_copyOf_b_149  : Int32 :=
  (2 : Int32)
noncomputable def f_m12_copyOf_b_130 (p0 : Int32) (a4 : Nat → Int32) : Int32 :=
  let z_131 : Int32 := (3 : Int32) * p0
  let z_132 : Int32 := z_131 + (2 : Int32)
  let z_133 : Int32 := a4 z_132.toNatClampNeg
  if z_133.toInt ≤ 0 then (f_m12_copyOf_b_135 a4 z_131) else f_m12_copyOf_b_149
noncomputable def f_m12_copyOf_b_127 (p0 : Int32) (a4 : Nat → Int32) : Int32 :=
  (f_m12_copyOf_b_130 p0 a4)
noncomputable def f_m12_copyOf_b_168  : Int32 :=
  (-1 : Int32)
noncomputable def f_m12_copyOf_b_170  : Int32 :=
  (0 : Int32)
noncomputable def f_m12_copyOf_b_164 (a4 : Nat → Int32) (z_156 : Int32) : Int32 :=
  let z_165 : Int32 := z_156 + (0 : Int32)
  let z_166 : Int32 := a4 z_165.toNatClampNeg
  if z_166.toInt ≤ 0 then f_m12_copyOf_b_168 else f_m12_copyOf_b_170
noncomputable def f_m12_copyOf_b_172  : Int32 :=
  (1 : Int32)
noncomputable def f_m12_copyOf_b_160 (a4 : Nat → Int32) (z_156 : Int32) : Int32 :=
  let z_161 : Int32 := z_156 + (1 : Int32)
  let z_162 : Int32 := a4 z_161.toNatClampNeg
  if z_162.toInt ≤ 0 then (f_m12_copyOf_b_164 a4 z_156) else f_m12_copyOf_b_172
noncomputable def f_m12_copyOf_b_174  : Int32 :=
  (2 : Int32)
noncomputable def f_m12_copyOf_b_155 (p0 : Int32) (a4 : Nat → Int32) : Int32 :=
  let z_156 : Int32 := (3 : Int32) * p0
  let z_157 : Int32 := z_156 + (2 : Int32)
  let z_158 : Int32 := a4 z_157.toNatClampNeg
  if z_158.toInt ≤ 0 then (f_m12_copyOf_b_160 a4 z_156) else f_m12_copyOf_b_174
noncomputable def f_m12_copyOf_b_152 (p0 : Int32) (a4 : Nat → Int32) : Int32 :=
  (f_m12_copyOf_b_155 p0 a4)
noncomputable def f_m12_copyOf_b_124 (p0 : Int32) (a4 : Nat → Int32) (z_12 : Int32) : Int32 :=
  if z_12.toInt = 0 then (f_m12_copyOf_b_127 p0 a4) else (f_m12_copyOf_b_152 p0 a4)
noncomputable def f_m12_copyOf_b_14 (p0 : Int32) (a4 : Nat → Int32) (z_9 : Int32) (z_12 : Int32) : Int32 :=
  if z_9.toInt = 0 then (f_m12_copyOf_b_18 p0 a4 z_12) else if z_9.toInt = 1 then (f_m12_copyOf_b_71 p0 a4 z_12) else (f_m12_copyOf_b_124 p0 a4 z_12)
noncomputable def f_m12_copyOf_b_11 (p0 : Int32) (a4 : Nat → Int32) (a21 : Nat → Int32) (v_1 : Int32) (z_9 : Int32) : Int32 :=
  let z_12 : Int32 := a21 v_1.toNatClampNeg
  (f_m12_copyOf_b_14 p0 a4 z_9 z_12)
noncomputable def f_m12_copyOf_b_8 (p0 : Int32) (a4 : Nat → Int32) (a20 : Nat → Int32) (a21 : Nat → Int32) (v_1 : Int32) : Int32 :=
  let z_9 : Int32 := a20 v_1.toNatClampNeg
  (f_m12_copyOf_b_11 p0 a4 a21 v_1 z_9)
noncomputable def f_m12_copyOf_b_193  : Int32 :=
  (-1 : Int32)
noncomputable def f_m12_copyOf_b_195  : Int32 :=
  (2 : Int32)
noncomputable def f_m12_copyOf_b_189 (a4 : Nat → Int32) (z_181 : Int32) : Int32 :=
  let z_190 : Int32 := z_181 + (2 : Int32)
  let z_191 : Int32 := a4 z_190.toNatClampNeg
  if z_191.toInt ≤ 0 then f_m12_copyOf_b_193 else f_m12_copyOf_b_195
noncomputable def f_m12_copyOf_b_197  : Int32 :=
  (1 : Int32)
noncomputable def f_m12_copyOf_b_185 (a4 : Nat → Int32) (z_181 : Int32) : Int32 :=
  let z_186 : Int32 := z_181 + (1 : Int32)
  let z_187 : Int32 := a4 z_186.toNatClampNeg
  if z_187.toInt ≤ 0 then (f_m12_copyOf_b_189 a4 z_181) else f_m12_copyOf_b_197
noncomputable def f_m12_copyOf_b_199  : Int32 :=
  (0 : Int32)
noncomputable def f_m12_copyOf_b_180 (p0 : Int32) (a4 : Nat → Int32) : Int32 :=
  let z_181 : Int32 := (3 : Int32) * p0
  let z_182 : Int32 := z_181 + (0 : Int32)
  let z_183 : Int32 := a4 z_182.toNatClampNeg
  if z_183.toInt ≤ 0 then (f_m12_copyOf_b_185 a4 z_181) else f_m12_copyOf_b_199
noncomputable def f_m12_copyOf_b_178 (p0 : Int32) (a4 : Nat → Int32) : Int32 :=
  (f_m12_copyOf_b_180 p0 a4)
noncomputable def f_m12_copyOf_b_176 (p0 : Int32) (a4 : Nat → Int32) : Int32 :=
  (f_m12_copyOf_b_178 p0 a4)
noncomputable def F_m12_copyOf (p0 : Int32) (p1 : Int32) (i4 : Int32) (i6 : Int32) (a2 : Nat → Int32) (a4 : Nat → Int32) (a8 : Nat → Int32) (a15 : Nat → Int32) (a16 : Nat → Int32) (a17 : Nat → Int32) (a18 : Nat → Int32) (a19 : Nat → Int32) (a20 : Nat → Int32) (a21 : Nat → Int32) : Int32 :=
  let v_1 : Int32 := (F_m12_lastOf (107 : Int32) (0 : Int32) p0 p1 i4 i6 a2 a8 a15 a16 a17 a18 a19 a20)
  if v_1.toInt ≠ (-1) then (f_m12_copyOf_b_8 p0 a4 a20 a21 v_1) else (f_m12_copyOf_b_176 p0 a4)
noncomputable def f_m12_tokensOf_b_10 (p0 : Int32) (a4 : Nat → Int32) : Int32 :=
  let z_11 : Int32 := (3 : Int32) * p0
  let z_12 : Int32 := z_11 + (0 : Int32)
  let z_13 : Int32 := a4 z_12.toNatClampNeg
  z_13
noncomputable def f_m12_tokensOf_b_16 (p0 : Int32) (a4 : Nat → Int32) : Int32 :=
  let z_17 : Int32 := (3 : Int32) * p0
  let z_18 : Int32 := z_17 + (1 : Int32)
  let z_19 : Int32 := a4 z_18.toNatClampNeg
  z_19
noncomputable def f_m12_tokensOf_b_22 (p0 : Int32) (a4 : Nat → Int32) : Int32 :=
  let z_23 : Int32 := (3 : Int32) * p0
  let z_24 : Int32 := z_23 + (2 : Int32)
  let z_25 : Int32 := a4 z_24.toNatClampNeg
  z_25
noncomputable def f_m12_tokensOf_b_7 (p0 : Int32) (a4 : Nat → Int32) (v_1 : Int32) : Int32 :=
  if v_1.toInt = 0 then (f_m12_tokensOf_b_10 p0 a4) else if v_1.toInt = 1 then (f_m12_tokensOf_b_16 p0 a4) else (f_m12_tokensOf_b_22 p0 a4)
noncomputable def f_m12_tokensOf_b_27  : Int32 :=
  (0 : Int32)
noncomputable def F_m12_tokensOf (p0 : Int32) (p1 : Int32) (i4 : Int32) (i6 : Int32) (a2 : Nat → Int32) (a4 : Nat → Int32) (a8 : Nat → Int32) (a15 : Nat → Int32) (a16 : Nat → Int32) (a17 : Nat → Int32) (a18 : Nat → Int32) (a19 : Nat → Int32) (a20 : Nat → Int32) (a21 : Nat → Int32) : Int32 :=
  let v_1 : Int32 := (F_m12_copyOf p0 p1 i4 i6 a2 a4 a8 a15 a16 a17 a18 a19 a20 a21)
  if v_1.toInt ≠ (-1) then (f_m12_tokensOf_b_7 p0 a4 v_1) else f_m12_tokensOf_b_27
noncomputable def f_m12_neededAt_b_7 (a21 : Nat → Int32) (v_1 : Int32) : Int32 :=
  let z_8 : Int32 := a21 v_1.toNatClampNeg
  z_8
noncomputable def f_m12_neededAt_b_10  : Int32 :=
  (50 : Int32)
noncomputable def F_m12_neededAt (p0 : Int32) (p1 : Int32) (p2 : Int32) (i4 : Int32) (i6 : Int32) (a2 : Nat → Int32) (a8 : Nat → Int32) (a15 : Nat → Int32) (a16 : Nat → Int32) (a17 : Nat → Int32) (a18 : Nat → Int32) (a19 : Nat → Int32) (a20 : Nat → Int32) (a21 : Nat → Int32) : Int32 :=
  let v_1 : Int32 := (F_m12_lastOf (118 : Int32) p0 p1 p2 i4 i6 a2 a8 a15 a16 a17 a18 a19 a20)
  if v_1.toInt ≠ (-1) then (f_m12_neededAt_b_7 a21 v_1) else f_m12_neededAt_b_10
noncomputable def f_m12_daysOf_b_7 (a20 : Nat → Int32) (v_1 : Int32) : Int32 :=
  let z_8 : Int32 := a20 v_1.toNatClampNeg
  z_8
noncomputable def f_m12_daysOf_b_10  : Int32 :=
  (0 : Int32)
noncomputable def F_m12_daysOf (p0 : Int32) (p1 : Int32) (i4 : Int32) (i6 : Int32) (a2 : Nat → Int32) (a8 : Nat → Int32) (a15 : Nat → Int32) (a16 : Nat → Int32) (a17 : Nat → Int32) (a18 : Nat → Int32) (a19 : Nat → Int32) (a20 : Nat → Int32) : Int32 :=
  let v_1 : Int32 := (F_m12_lastOf (111 : Int32) (0 : Int32) p0 p1 i4 i6 a2 a8 a15 a16 a17 a18 a19 a20)
  if v_1.toInt ≠ (-1) then (f_m12_daysOf_b_7 a20 v_1) else f_m12_daysOf_b_10
noncomputable def f_m12_asks_b_7  : Int32 :=
  (-1 : Int32)
noncomputable def f_m12_asks_b_18  : Int32 :=
  (-1 : Int32)
noncomputable def f_m12_asks_b_20 (p0 : Int32) (p1 : Int32) (i4 : Int32) (i6 : Int32) (a2 : Nat → Int32) (a8 : Nat → Int32) (a15 : Nat → Int32) (a16 : Nat → Int32) (a17 : Nat → Int32) (a18 : Nat → Int32) (a19 : Nat → Int32) (a20 : Nat → Int32) (a21 : Nat → Int32) : Int32 :=
  let v_21 : Int32 := (F_m12_neededAt (0 : Int32) p0 p1 i4 i6 a2 a8 a15 a16 a17 a18 a19 a20 a21)
  v_21
noncomputable def f_m12_asks_b_26 (p0 : Int32) (p1 : Int32) (i4 : Int32) (i6 : Int32) (a2 : Nat → Int32) (a8 : Nat → Int32) (a15 : Nat → Int32) (a16 : Nat → Int32) (a17 : Nat → Int32) (a18 : Nat → Int32) (a19 : Nat → Int32) (a20 : Nat → Int32) (a21 : Nat → Int32) : Int32 :=
  let v_27 : Int32 := (F_m12_neededAt (1 : Int32) p0 p1 i4 i6 a2 a8 a15 a16 a17 a18 a19 a20 a21)
  v_27
noncomputable def f_m12_asks_b_32 (p0 : Int32) (p1 : Int32) (i4 : Int32) (i6 : Int32) (a2 : Nat → Int32) (a8 : Nat → Int32) (a15 : Nat → Int32) (a16 : Nat → Int32) (a17 : Nat → Int32) (a18 : Nat → Int32) (a19 : Nat → Int32) (a20 : Nat → Int32) : Int32 :=
  let v_33 : Int32 := (F_m12_daysOf p0 p1 i4 i6 a2 a8 a15 a16 a17 a18 a19 a20)
  v_33
noncomputable def f_m12_asks_b_38 (p0 : Int32) (p1 : Int32) (i4 : Int32) (i6 : Int32) (a2 : Nat → Int32) (a4 : Nat → Int32) (a8 : Nat → Int32) (a15 : Nat → Int32) (a16 : Nat → Int32) (a17 : Nat → Int32) (a18 : Nat → Int32) (a19 : Nat → Int32) (a20 : Nat → Int32) (a21 : Nat → Int32) : Int32 :=
  let v_39 : Int32 := (F_m12_copyOf p0 p1 i4 i6 a2 a4 a8 a15 a16 a17 a18 a19 a20 a21)
  v_39
noncomputable def f_m12_asks_b_45 (p0 : Int32) (p1 : Int32) (i4 : Int32) (i6 : Int32) (a2 : Nat → Int32) (a4 : Nat → Int32) (a8 : Nat → Int32) (a15 : Nat → Int32) (a16 : Nat → Int32) (a17 : Nat → Int32) (a18 : Nat → Int32) (a19 : Nat → Int32) (a20 : Nat → Int32) (a21 : Nat → Int32) : Int32 :=
  let v_46 : Int32 := (F_m12_tokensOf p0 p1 i4 i6 a2 a4 a8 a15 a16 a17 a18 a19 a20 a21)
  v_46
noncomputable def f_m12_asks_b_52 (p0 : Int32) (i4 : Int32) (a2 : Nat → Int32) (a8 : Nat → Int32) : Int32 :=
  let v_53 : Int32 := (F_m12_companyOf p0 i4 a2 a8)
  v_53
noncomputable def f_m12_asks_b_16 (p0 : Int32) (p1 : Int32) (p2 : Int32) (i4 : Int32) (i6 : Int32) (a2 : Nat → Int32) (a4 : Nat → Int32) (a8 : Nat → Int32) (a15 : Nat → Int32) (a16 : Nat → Int32) (a17 : Nat → Int32) (a18 : Nat → Int32) (a19 : Nat → Int32) (a20 : Nat → Int32) (a21 : Nat → Int32) : Int32 :=
  if p2.toInt = 0 then (f_m12_asks_b_20 p0 p1 i4 i6 a2 a8 a15 a16 a17 a18 a19 a20 a21) else if p2.toInt = 1 then (f_m12_asks_b_26 p0 p1 i4 i6 a2 a8 a15 a16 a17 a18 a19 a20 a21) else if p2.toInt = 2 then (f_m12_asks_b_32 p0 p1 i4 i6 a2 a8 a15 a16 a17 a18 a19 a20) else if p2.toInt = 3 then (f_m12_asks_b_38 p0 p1 i4 i6 a2 a4 a8 a15 a16 a17 a18 a19 a20 a21) else if p2.toInt = 4 then (f_m12_asks_b_45 p0 p1 i4 i6 a2 a4 a8 a15 a16 a17 a18 a19 a20 a21) else if p2.toInt = 5 then (f_m12_asks_b_52 p0 i4 a2 a8) else f_m12_asks_b_18
noncomputable def f_m12_asks_b_59  : Int32 :=
  (-1 : Int32)
noncomputable def f_m12_asks_b_9 (p0 : Int32) (p1 : Int32) (p2 : Int32) (i4 : Int32) (i6 : Int32) (a2 : Nat → Int32) (a4 : Nat → Int32) (a8 : Nat → Int32) (a15 : Nat → Int32) (a16 : Nat → Int32) (a17 : Nat → Int32) (a18 : Nat → Int32) (a19 : Nat → Int32) (a20 : Nat → Int32) (a21 : Nat → Int32) : Int32 :=
  let v_10 : Int32 := (F_m12_isDay p1)
  if v_10.toInt ≠ 0 then (f_m12_asks_b_16 p0 p1 p2 i4 i6 a2 a4 a8 a15 a16 a17 a18 a19 a20 a21) else f_m12_asks_b_59
noncomputable def F_m12_asks (p0 : Int32) (p1 : Int32) (p2 : Int32) (i2 : Int32) (i4 : Int32) (i6 : Int32) (a2 : Nat → Int32) (a4 : Nat → Int32) (a8 : Nat → Int32) (a15 : Nat → Int32) (a16 : Nat → Int32) (a17 : Nat → Int32) (a18 : Nat → Int32) (a19 : Nat → Int32) (a20 : Nat → Int32) (a21 : Nat → Int32) : Int32 :=
  let v_1 : Int32 := (F_m12_isVerse p0 i2)
  if v_1.toInt = 0 then f_m12_asks_b_7 else (f_m12_asks_b_9 p0 p1 p2 i4 i6 a2 a4 a8 a15 a16 a17 a18 a19 a20 a21)
noncomputable def f_m12_render_b_2 (i0 : Int32) (i7 : Int32) : Int32 × Int32 × Int32 :=
  ((-1 : Int32), i0, i7)
noncomputable def f_m12_render_b_11 (i0 : Int32) (i7 : Int32) : Int32 × Int32 × Int32 :=
  ((-1 : Int32), i0, i7)
noncomputable def f_m12_render_b_16 (i0 : Int32) (i7 : Int32) : Int32 × Int32 × Int32 :=
  ((-1 : Int32), i0, i7)
noncomputable def f_m12_render_b_25 (i0 : Int32) (i7 : Int32) : Int32 × Int32 × Int32 :=
  ((-1 : Int32), i0, i7)
noncomputable def f_m12_render_b_33 (i0 : Int32) (i7 : Int32) : Int32 × Int32 × Int32 :=
  ((-1 : Int32), i0, i7)
noncomputable def f_m12_render_b_78 (i7 : Int32) : Int32 × Int32 × Int32 :=
  let z_85 : Int32 := i7 + (1 : Int32)
  (i7, (0 : Int32), z_85)
noncomputable def f_m12_render_b_87 (x_71 : Int32) (self_J_70 : Int32 → Int32 × Int32 × Int32) : Int32 × Int32 × Int32 :=
  let z_103 : Int32 := x_71 + Int32.ofInt 1
  self_J_70 z_103
noncomputable def f_m12_render_J_70 (p2 : Int32) (i7 : Int32) (x_71 : Int32) (self_J_70 : Int32 → Int32 × Int32 × Int32) : Int32 × Int32 × Int32 :=
  if x_71.toInt ≥ p2.toInt then (f_m12_render_b_78 i7) else (f_m12_render_b_87 x_71 self_J_70)
noncomputable def f_m12_render_j70 (p2 : Int32) (i7 : Int32) (n : Nat) : Int32 → Int32 × Int32 × Int32 :=
  Nat.rec (motive := fun _ => Int32 → Int32 × Int32 × Int32) (fun _ => (0, 0, 0)) (fun _ sq_ x_71 => f_m12_render_J_70 p2 i7 x_71 sq_) n
noncomputable def f_m12_render_b_68 (p2 : Int32) (i7 : Int32) : Int32 × Int32 × Int32 :=
  f_m12_render_j70 p2 i7 13 ((0 : Int32))
noncomputable def f_m12_render_b_104 (x_63 : Int32) (self_J_62 : Int32 → Int32 × Int32 × Int32) : Int32 × Int32 × Int32 :=
  let z_111 : Int32 := x_63 + Int32.ofInt 1
  self_J_62 z_111
noncomputable def f_m12_render_J_62 (p2 : Int32) (i7 : Int32) (a4 : Nat → Int32) (z_47 : Int32) (x_63 : Int32) (self_J_62 : Int32 → Int32 × Int32 × Int32) : Int32 × Int32 × Int32 :=
  let z_66 : Int32 := a4 z_47.toNatClampNeg
  if x_63.toInt ≥ z_66.toInt then (f_m12_render_b_68 p2 i7) else (f_m12_render_b_104 x_63 self_J_62)
noncomputable def f_m12_render_j62 (p2 : Int32) (i7 : Int32) (a4 : Nat → Int32) (z_47 : Int32) (n : Nat) : Int32 → Int32 × Int32 × Int32 :=
  Nat.rec (motive := fun _ => Int32 → Int32 × Int32 × Int32) (fun _ => (0, 0, 0)) (fun _ sq_ x_63 => f_m12_render_J_62 p2 i7 a4 z_47 x_63 sq_) n
noncomputable def f_m12_render_b_55 (p2 : Int32) (i7 : Int32) (a4 : Nat → Int32) (z_47 : Int32) : Int32 × Int32 × Int32 :=
  f_m12_render_j62 p2 i7 a4 z_47 9 ((0 : Int32))
noncomputable def f_m12_render_b_126 (i0 : Int32) (i7 : Int32) : Int32 × Int32 × Int32 :=
  ((-1 : Int32), i0, i7)
noncomputable def f_m12_render_b_130 (x_49 : Int32) (self_J_48 : Int32 → Int32 × Int32 × Int32) : Int32 × Int32 × Int32 :=
  let z_131 : Int32 := x_49 + Int32.ofInt 1
  self_J_48 z_131
noncomputable def f_m12_render_b_135 (x_49 : Int32) (self_J_48 : Int32 → Int32 × Int32 × Int32) : Int32 × Int32 × Int32 :=
  let z_136 : Int32 := x_49 + Int32.ofInt 1
  self_J_48 z_136
noncomputable def f_m12_render_b_137 (i0 : Int32) (i7 : Int32) : Int32 × Int32 × Int32 :=
  ((-1 : Int32), i0, i7)
noncomputable def f_m12_render_b_132 (i0 : Int32) (i7 : Int32) (a4 : Nat → Int32) (z_47 : Int32) (x_49 : Int32) (self_J_48 : Int32 → Int32 × Int32 × Int32) (z_115 : Int32) : Int32 × Int32 × Int32 :=
  let z_133 : Int32 := a4 z_47.toNatClampNeg
  if (z_115 &&& (255 : Int32)).toInt < z_133.toInt then (f_m12_render_b_135 x_49 self_J_48) else (f_m12_render_b_137 i0 i7)
noncomputable def f_m12_render_b_128 (i0 : Int32) (i7 : Int32) (a4 : Nat → Int32) (z_47 : Int32) (x_49 : Int32) (self_J_48 : Int32 → Int32 × Int32 × Int32) (z_115 : Int32) : Int32 × Int32 × Int32 :=
  if (z_115 &&& (255 : Int32)).toInt = 8 then (f_m12_render_b_130 x_49 self_J_48) else (f_m12_render_b_132 i0 i7 a4 z_47 x_49 self_J_48 z_115)
noncomputable def f_m12_render_b_112 (i0 : Int32) (i3 : Int32) (i7 : Int32) (a1 : Nat → Int32) (a4 : Nat → Int32) (z_47 : Int32) (x_49 : Int32) (self_J_48 : Int32 → Int32 × Int32 × Int32) : Int32 × Int32 × Int32 :=
  let z_113 : Int32 := (2 : Int32) * x_49
  let z_114 : Int32 := z_113 + (1 : Int32)
  let z_115 : Int32 := a1 z_114.toNatClampNeg
  let z_117 : Int32 := (2 : Int32) * x_49
  let z_118 : Int32 := a1 z_117.toNatClampNeg
  let v_120 : Int32 := (F_m12_isWord (z_118 &&& (255 : Int32)) i3)
  if v_120.toInt = 0 then (f_m12_render_b_126 i0 i7) else (f_m12_render_b_128 i0 i7 a4 z_47 x_49 self_J_48 z_115)
noncomputable def f_m12_render_J_48 (p2 : Int32) (i0 : Int32) (i3 : Int32) (i7 : Int32) (a1 : Nat → Int32) (a4 : Nat → Int32) (z_47 : Int32) (x_49 : Int32) (self_J_48 : Int32 → Int32 × Int32 × Int32) : Int32 × Int32 × Int32 :=
  if x_49.toInt ≥ p2.toInt then (f_m12_render_b_55 p2 i7 a4 z_47) else (f_m12_render_b_112 i0 i3 i7 a1 a4 z_47 x_49 self_J_48)
noncomputable def f_m12_render_j48 (p2 : Int32) (i0 : Int32) (i3 : Int32) (i7 : Int32) (a1 : Nat → Int32) (a4 : Nat → Int32) (z_47 : Int32) (n : Nat) : Int32 → Int32 × Int32 × Int32 :=
  Nat.rec (motive := fun _ => Int32 → Int32 × Int32 × Int32) (fun _ => (0, 0, 0)) (fun _ sq_ x_49 => f_m12_render_J_48 p2 i0 i3 i7 a1 a4 z_47 x_49 sq_) n
noncomputable def f_m12_render_b_45 (p1 : Int32) (p2 : Int32) (i0 : Int32) (i3 : Int32) (i7 : Int32) (a1 : Nat → Int32) (a4 : Nat → Int32) (v_39 : Int32) : Int32 × Int32 × Int32 :=
  let z_46 : Int32 := (3 : Int32) * p1
  let z_47 : Int32 := z_46 + v_39
  f_m12_render_j48 p2 i0 i3 i7 a1 a4 z_47 13 ((0 : Int32))
noncomputable def f_m12_render_b_139 (i0 : Int32) (i7 : Int32) : Int32 × Int32 × Int32 :=
  ((-1 : Int32), i0, i7)
noncomputable def f_m12_render_b_38 (p1 : Int32) (p2 : Int32) (i0 : Int32) (i1 : Int32) (i3 : Int32) (i4 : Int32) (i6 : Int32) (i7 : Int32) (a1 : Nat → Int32) (a2 : Nat → Int32) (a4 : Nat → Int32) (a8 : Nat → Int32) (a15 : Nat → Int32) (a16 : Nat → Int32) (a17 : Nat → Int32) (a18 : Nat → Int32) (a19 : Nat → Int32) (a20 : Nat → Int32) (a21 : Nat → Int32) : Int32 × Int32 × Int32 :=
  let v_39 : Int32 := (F_m12_copyOf p1 i1 i4 i6 a2 a4 a8 a15 a16 a17 a18 a19 a20 a21)
  if v_39.toInt ≠ (-1) then (f_m12_render_b_45 p1 p2 i0 i3 i7 a1 a4 v_39) else (f_m12_render_b_139 i0 i7)
noncomputable def f_m12_render_b_141 (i0 : Int32) (i7 : Int32) : Int32 × Int32 × Int32 :=
  ((-1 : Int32), i0, i7)
noncomputable def f_m12_render_b_35 (p1 : Int32) (p2 : Int32) (i0 : Int32) (i1 : Int32) (i3 : Int32) (i4 : Int32) (i6 : Int32) (i7 : Int32) (a1 : Nat → Int32) (a2 : Nat → Int32) (a4 : Nat → Int32) (a8 : Nat → Int32) (a15 : Nat → Int32) (a16 : Nat → Int32) (a17 : Nat → Int32) (a18 : Nat → Int32) (a19 : Nat → Int32) (a20 : Nat → Int32) (a21 : Nat → Int32) : Int32 × Int32 × Int32 :=
  let z_36 : Int32 := (2 : Int32) * p2
  if z_36.toInt ≤ i0.toInt then (f_m12_render_b_38 p1 p2 i0 i1 i3 i4 i6 i7 a1 a2 a4 a8 a15 a16 a17 a18 a19 a20 a21) else (f_m12_render_b_141 i0 i7)
noncomputable def f_m12_render_b_27 (p1 : Int32) (p2 : Int32) (i0 : Int32) (i1 : Int32) (i3 : Int32) (i4 : Int32) (i6 : Int32) (i7 : Int32) (a1 : Nat → Int32) (a2 : Nat → Int32) (a4 : Nat → Int32) (a8 : Nat → Int32) (a15 : Nat → Int32) (a16 : Nat → Int32) (a17 : Nat → Int32) (a18 : Nat → Int32) (a19 : Nat → Int32) (a20 : Nat → Int32) (a21 : Nat → Int32) : Int32 × Int32 × Int32 :=
  let v_28 : Int32 := (F_m12_lies p2 (1 : Int32) (12 : Int32))
  if v_28.toInt = 0 then (f_m12_render_b_33 i0 i7) else (f_m12_render_b_35 p1 p2 i0 i1 i3 i4 i6 i7 a1 a2 a4 a8 a15 a16 a17 a18 a19 a20 a21)
noncomputable def f_m12_render_b_18 (p1 : Int32) (p2 : Int32) (i0 : Int32) (i1 : Int32) (i2 : Int32) (i3 : Int32) (i4 : Int32) (i6 : Int32) (i7 : Int32) (a1 : Nat → Int32) (a2 : Nat → Int32) (a4 : Nat → Int32) (a8 : Nat → Int32) (a15 : Nat → Int32) (a16 : Nat → Int32) (a17 : Nat → Int32) (a18 : Nat → Int32) (a19 : Nat → Int32) (a20 : Nat → Int32) (a21 : Nat → Int32) : Int32 × Int32 × Int32 :=
  let v_19 : Int32 := (F_m12_isVerse p1 i2)
  if v_19.toInt = 0 then (f_m12_render_b_25 i0 i7) else (f_m12_render_b_27 p1 p2 i0 i1 i3 i4 i6 i7 a1 a2 a4 a8 a15 a16 a17 a18 a19 a20 a21)
noncomputable def f_m12_render_b_13 (p0 : Int32) (p1 : Int32) (p2 : Int32) (i0 : Int32) (i1 : Int32) (i2 : Int32) (i3 : Int32) (i4 : Int32) (i6 : Int32) (i7 : Int32) (a1 : Nat → Int32) (a2 : Nat → Int32) (a4 : Nat → Int32) (a8 : Nat → Int32) (a12 : Nat → Int32) (a15 : Nat → Int32) (a16 : Nat → Int32) (a17 : Nat → Int32) (a18 : Nat → Int32) (a19 : Nat → Int32) (a20 : Nat → Int32) (a21 : Nat → Int32) : Int32 × Int32 × Int32 :=
  let z_14 : Int32 := a12 p0.toNatClampNeg
  if z_14.toInt ≠ 0 then (f_m12_render_b_16 i0 i7) else (f_m12_render_b_18 p1 p2 i0 i1 i2 i3 i4 i6 i7 a1 a2 a4 a8 a15 a16 a17 a18 a19 a20 a21)
noncomputable def f_m12_render_b_4 (p0 : Int32) (p1 : Int32) (p2 : Int32) (i0 : Int32) (i1 : Int32) (i2 : Int32) (i3 : Int32) (i4 : Int32) (i5 : Int32) (i6 : Int32) (i7 : Int32) (a1 : Nat → Int32) (a2 : Nat → Int32) (a4 : Nat → Int32) (a8 : Nat → Int32) (a12 : Nat → Int32) (a15 : Nat → Int32) (a16 : Nat → Int32) (a17 : Nat → Int32) (a18 : Nat → Int32) (a19 : Nat → Int32) (a20 : Nat → Int32) (a21 : Nat → Int32) : Int32 × Int32 × Int32 :=
  let z_5 : Int32 := i5 - (1 : Int32)
  let v_6 : Int32 := (F_m12_lies p0 (0 : Int32) z_5)
  if v_6.toInt = 0 then (f_m12_render_b_11 i0 i7) else (f_m12_render_b_13 p0 p1 p2 i0 i1 i2 i3 i4 i6 i7 a1 a2 a4 a8 a12 a15 a16 a17 a18 a19 a20 a21)
noncomputable def F_m12_render (p0 : Int32) (p1 : Int32) (p2 : Int32) (i0 : Int32) (i1 : Int32) (i2 : Int32) (i3 : Int32) (i4 : Int32) (i5 : Int32) (i6 : Int32) (i7 : Int32) (a1 : Nat → Int32) (a2 : Nat → Int32) (a4 : Nat → Int32) (a8 : Nat → Int32) (a12 : Nat → Int32) (a15 : Nat → Int32) (a16 : Nat → Int32) (a17 : Nat → Int32) (a18 : Nat → Int32) (a19 : Nat → Int32) (a20 : Nat → Int32) (a21 : Nat → Int32) : Int32 × Int32 × Int32 :=
  if i7.toInt = 200 then (f_m12_render_b_2 i0 i7) else (f_m12_render_b_4 p0 p1 p2 i0 i1 i2 i3 i4 i5 i6 i7 a1 a2 a4 a8 a12 a15 a16 a17 a18 a19 a20 a21)
noncomputable def f_m12_voids_b_7 (a12 : Nat → Int32) : (Nat → Int32) :=
  a12
noncomputable def f_m12_voids_b_31 (a12_13 : Nat → Int32) : (Nat → Int32) :=
  a12_13
noncomputable def f_m12_voids_b_33 (x_16 : Int32) (self_J_14 : Int32 → (Nat → Int32)) : (Nat → Int32) :=
  let z_51 : Int32 := x_16 + Int32.ofInt 1
  self_J_14 z_51
noncomputable def f_m12_voids_J_14 (i7 : Int32) (a12_13 : Nat → Int32) (x_16 : Int32) (self_J_14 : Int32 → (Nat → Int32)) : (Nat → Int32) :=
  if x_16.toInt ≥ i7.toInt then (f_m12_voids_b_31 a12_13) else (f_m12_voids_b_33 x_16 self_J_14)
noncomputable def f_m12_voids_j14 (i7 : Int32) (a12_13 : Nat → Int32) (n : Nat) : Int32 → (Nat → Int32) :=
  Nat.rec (motive := fun _ => Int32 → (Nat → Int32)) (fun _ => (fun _ => 0)) (fun _ sq_ x_16 => f_m12_voids_J_14 i7 a12_13 x_16 sq_) n
noncomputable def f_m12_voids_b_12 (p0 : Int32) (i7 : Int32) (a12 : Nat → Int32) : (Nat → Int32) :=
  let a12_13 : Nat → Int32 := upd a12 p0.toNatClampNeg (vp_nar .boolean (1 : Int32))
  f_m12_voids_j14 i7 a12_13 201 ((0 : Int32))
noncomputable def f_m12_voids_b_52 (a12 : Nat → Int32) : (Nat → Int32) :=
  a12
noncomputable def f_m12_voids_b_9 (p0 : Int32) (i7 : Int32) (a12 : Nat → Int32) : (Nat → Int32) :=
  let z_10 : Int32 := a12 p0.toNatClampNeg
  if z_10.toInt = 0 then (f_m12_voids_b_12 p0 i7 a12) else (f_m12_voids_b_52 a12)
noncomputable def F_m12_voids (p0 : Int32) (i5 : Int32) (i7 : Int32) (a12 : Nat → Int32) : (Nat → Int32) :=
  let z_1 : Int32 := i5 - (1 : Int32)
  let v_2 : Int32 := (F_m12_lies p0 (0 : Int32) z_1)
  if v_2.toInt = 0 then (f_m12_voids_b_7 a12) else (f_m12_voids_b_9 p0 i7 a12)
