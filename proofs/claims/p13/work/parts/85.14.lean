noncomputable def f_m12_readsMust_b_142 (p0 : Int32) (i10 : Int32) (a1 : Nat → Int32) (a21 : Nat → Int32) (a22 : Nat → Int32) (a20_15 : Nat → Int32) (i9_24 : Int32) (i11_25 : Int32) : Int32 × Int32 × (Nat → Int32) × (Nat → Int32) × (Nat → Int32) :=
  let i11_146 : Int32 := (F_m12_fails (1 : Int32) i9_24 i11_25)
  f_m12_readsMust_j44 p0 i10 a1 a21 a22 a20_15 i9_24 i11_146
noncomputable def f_m12_readsMust_b_130 (p0 : Int32) (i10 : Int32) (a1 : Nat → Int32) (a21 : Nat → Int32) (a22 : Nat → Int32) (a20_15 : Nat → Int32) (i9_24 : Int32) (i11_25 : Int32) : Int32 × Int32 × (Nat → Int32) × (Nat → Int32) × (Nat → Int32) :=
  let v_131 : Int32 := (F_m12_here i9_24 i10 a1)
  let v_136 : Int32 := (F_m12_lies v_131 (48 : Int32) (51 : Int32))
  if v_136.toInt ≠ 0 then (f_m12_readsMust_b_141 p0 i10 a1 a21 a22 a20_15 i9_24 i11_25) else (f_m12_readsMust_b_142 p0 i10 a1 a21 a22 a20_15 i9_24 i11_25)
noncomputable def f_m12_readsMust_b_38 (p0 : Int32) (i10 : Int32) (a1 : Nat → Int32) (a21 : Nat → Int32) (a22 : Nat → Int32) (a20_15 : Nat → Int32) (i9_24 : Int32) (i11_25 : Int32) : Int32 × Int32 × (Nat → Int32) × (Nat → Int32) × (Nat → Int32) :=
  let v_39 : Int32 := (F_m12_here i9_24 i10 a1)
  if v_39.toInt = 42 then (f_m12_readsMust_b_129 p0 i10 a1 a21 a22 a20_15 i9_24 i11_25) else (f_m12_readsMust_b_130 p0 i10 a1 a21 a22 a20_15 i9_24 i11_25)
noncomputable def f_m12_readsMust_b_151 (a21 : Nat → Int32) (a22 : Nat → Int32) (a20_15 : Nat → Int32) (i9_24 : Int32) (i11_25 : Int32) : Int32 × Int32 × (Nat → Int32) × (Nat → Int32) × (Nat → Int32) :=
  (i9_24, i11_25, a20_15, a21, a22)
noncomputable def f_m12_readsMust_J_23 (p0 : Int32) (i10 : Int32) (a1 : Nat → Int32) (a21 : Nat → Int32) (a22 : Nat → Int32) (a20_15 : Nat → Int32) (i9_24 : Int32) (i11_25 : Int32) : Int32 × Int32 × (Nat → Int32) × (Nat → Int32) × (Nat → Int32) :=
  let v_32 : Int32 := (F_m12_isGood i11_25)
  if v_32.toInt ≠ 0 then (f_m12_readsMust_b_38 p0 i10 a1 a21 a22 a20_15 i9_24 i11_25) else (f_m12_readsMust_b_151 a21 a22 a20_15 i9_24 i11_25)
noncomputable def f_m12_readsMust_j23 (p0 : Int32) (i10 : Int32) (a1 : Nat → Int32) (a21 : Nat → Int32) (a22 : Nat → Int32) (a20_15 : Nat → Int32) (i9_24 : Int32) (i11_25 : Int32) : Int32 × Int32 × (Nat → Int32) × (Nat → Int32) × (Nat → Int32) := f_m12_readsMust_J_23 p0 i10 a1 a21 a22 a20_15 i9_24 i11_25
noncomputable def f_m12_readsMust_b_153 (p0 : Int32) (i10 : Int32) (a1 : Nat → Int32) (a21 : Nat → Int32) (a22 : Nat → Int32) (i9_4 : Int32) (i11_5 : Int32) (a20_15 : Nat → Int32) : Int32 × Int32 × (Nat → Int32) × (Nat → Int32) × (Nat → Int32) :=
  f_m12_readsMust_j23 p0 i10 a1 a21 a22 a20_15 i9_4 i11_5
noncomputable def f_m12_readsMust_b_154 (p0 : Int32) (i10 : Int32) (a1 : Nat → Int32) (a21 : Nat → Int32) (a22 : Nat → Int32) (i9_4 : Int32) (i11_5 : Int32) (a20_15 : Nat → Int32) : Int32 × Int32 × (Nat → Int32) × (Nat → Int32) × (Nat → Int32) :=
  let i9_158 : Int32 := (F_m12_must (46 : Int32) i9_4 i10 i11_5 a1).1
  let i11_159 : Int32 := (F_m12_must (46 : Int32) i9_4 i10 i11_5 a1).2
  f_m12_readsMust_j23 p0 i10 a1 a21 a22 a20_15 i9_158 i11_159
noncomputable def F_m12_readsMust (p0 : Int32) (i9 : Int32) (i10 : Int32) (i11 : Int32) (a1 : Nat → Int32) (a20 : Nat → Int32) (a21 : Nat → Int32) (a22 : Nat → Int32) : Int32 × Int32 × (Nat → Int32) × (Nat → Int32) × (Nat → Int32) :=
  let v_1 : Int32 := (F_m12_readsNumber (39 : Int32) i9 i10 i11 a1).1
  let i9_4 : Int32 := (F_m12_readsNumber (39 : Int32) i9 i10 i11 a1).2.1
  let i11_5 : Int32 := (F_m12_readsNumber (39 : Int32) i9 i10 i11 a1).2.2
  let a20_15 : Nat → Int32 := upd a20 p0.toNatClampNeg v_1
  let v_18 : Int32 := (F_m12_isGood i11_5)
  if v_18.toInt = 0 then (f_m12_readsMust_b_153 p0 i10 a1 a21 a22 i9_4 i11_5 a20_15) else (f_m12_readsMust_b_154 p0 i10 a1 a21 a22 i9_4 i11_5 a20_15)
noncomputable def f_m12_readsRank_b_91 (a21 : Nat → Int32) (a22 : Nat → Int32) (a20_41 : Nat → Int32) (z_45 : Int32) (i11_80 : Int32) : Int32 × Int32 × (Nat → Int32) × (Nat → Int32) × (Nat → Int32) :=
  (z_45, i11_80, a20_41, a21, a22)
noncomputable def f_m12_readsRank_b_76 (i11 : Int32) (a21 : Nat → Int32) (a22 : Nat → Int32) (a20_41 : Nat → Int32) (z_45 : Int32) : Int32 × Int32 × (Nat → Int32) × (Nat → Int32) × (Nat → Int32) :=
  let i11_80 : Int32 := (F_m12_fails (6 : Int32) z_45 i11)
  (f_m12_readsRank_b_91 a21 a22 a20_41 z_45 i11_80)
noncomputable def f_m12_readsRank_b_69 (i11 : Int32) (a21 : Nat → Int32) (a22 : Nat → Int32) (a20_41 : Nat → Int32) (z_45 : Int32) : Int32 × Int32 × (Nat → Int32) × (Nat → Int32) × (Nat → Int32) :=
  (f_m12_readsRank_b_76 i11 a21 a22 a20_41 z_45)
noncomputable def f_m12_readsRank_b_162 (a22 : Nat → Int32) (a20_41 : Nat → Int32) (a21_112 : Nat → Int32) (z_116 : Int32) (i11_151 : Int32) : Int32 × Int32 × (Nat → Int32) × (Nat → Int32) × (Nat → Int32) :=
  (z_116, i11_151, a20_41, a21_112, a22)
noncomputable def f_m12_readsRank_b_147 (i11 : Int32) (a22 : Nat → Int32) (a20_41 : Nat → Int32) (a21_112 : Nat → Int32) (z_116 : Int32) : Int32 × Int32 × (Nat → Int32) × (Nat → Int32) × (Nat → Int32) :=
  let i11_151 : Int32 := (F_m12_fails (6 : Int32) z_116 i11)
  (f_m12_readsRank_b_162 a22 a20_41 a21_112 z_116 i11_151)
noncomputable def f_m12_readsRank_b_140 (i11 : Int32) (a22 : Nat → Int32) (a20_41 : Nat → Int32) (a21_112 : Nat → Int32) (z_116 : Int32) : Int32 × Int32 × (Nat → Int32) × (Nat → Int32) × (Nat → Int32) :=
  (f_m12_readsRank_b_147 i11 a22 a20_41 a21_112 z_116)
noncomputable def f_m12_readsRank_b_186 (a22 : Nat → Int32) (a20_41 : Nat → Int32) (a21_112 : Nat → Int32) (z_116 : Int32) (i11_175 : Int32) : Int32 × Int32 × (Nat → Int32) × (Nat → Int32) × (Nat → Int32) :=
  (z_116, i11_175, a20_41, a21_112, a22)
noncomputable def f_m12_readsRank_b_171 (i11 : Int32) (a22 : Nat → Int32) (a20_41 : Nat → Int32) (a21_112 : Nat → Int32) (z_116 : Int32) : Int32 × Int32 × (Nat → Int32) × (Nat → Int32) × (Nat → Int32) :=
  let i11_175 : Int32 := (F_m12_fails (6 : Int32) z_116 i11)
  (f_m12_readsRank_b_186 a22 a20_41 a21_112 z_116 i11_175)
noncomputable def f_m12_readsRank_b_164 (i11 : Int32) (a22 : Nat → Int32) (a20_41 : Nat → Int32) (a21_112 : Nat → Int32) (z_116 : Int32) : Int32 × Int32 × (Nat → Int32) × (Nat → Int32) × (Nat → Int32) :=
  (f_m12_readsRank_b_171 i11 a22 a20_41 a21_112 z_116)
noncomputable def f_m12_readsRank_b_213 (i11 : Int32) (a20_41 : Nat → Int32) (a21_112 : Nat → Int32) (a22_207 : Nat → Int32) (z_211 : Int32) : Int32 × Int32 × (Nat → Int32) × (Nat → Int32) × (Nat → Int32) :=
  (z_211, i11, a20_41, a21_112, a22_207)
noncomputable def f_m12_readsRank_b_206 (p0 : Int32) (i11 : Int32) (a22 : Nat → Int32) (a20_41 : Nat → Int32) (a21_112 : Nat → Int32) (z_116 : Int32) : Int32 × Int32 × (Nat → Int32) × (Nat → Int32) × (Nat → Int32) :=
  let a22_207 : Nat → Int32 := upd a22 p0.toNatClampNeg (2 : Int32)
  let z_211 : Int32 := z_116 + (1 : Int32)
  (f_m12_readsRank_b_213 i11 a20_41 a21_112 a22_207 z_211)
noncomputable def f_m12_readsRank_b_204 (p0 : Int32) (i11 : Int32) (a22 : Nat → Int32) (a20_41 : Nat → Int32) (a21_112 : Nat → Int32) (z_116 : Int32) : Int32 × Int32 × (Nat → Int32) × (Nat → Int32) × (Nat → Int32) :=
  (f_m12_readsRank_b_206 p0 i11 a22 a20_41 a21_112 z_116)
noncomputable def f_m12_readsRank_b_202 (p0 : Int32) (i11 : Int32) (a22 : Nat → Int32) (a20_41 : Nat → Int32) (a21_112 : Nat → Int32) (z_116 : Int32) : Int32 × Int32 × (Nat → Int32) × (Nat → Int32) × (Nat → Int32) :=
  (f_m12_readsRank_b_204 p0 i11 a22 a20_41 a21_112 z_116)
noncomputable def f_m12_readsRank_b_195 (p0 : Int32) (i11 : Int32) (a22 : Nat → Int32) (a20_41 : Nat → Int32) (a21_112 : Nat → Int32) (z_116 : Int32) : Int32 × Int32 × (Nat → Int32) × (Nat → Int32) × (Nat → Int32) :=
  (f_m12_readsRank_b_202 p0 i11 a22 a20_41 a21_112 z_116)
noncomputable def f_m12_readsRank_b_188 (p0 : Int32) (i11 : Int32) (a22 : Nat → Int32) (a20_41 : Nat → Int32) (a21_112 : Nat → Int32) (z_116 : Int32) : Int32 × Int32 × (Nat → Int32) × (Nat → Int32) × (Nat → Int32) :=
  (f_m12_readsRank_b_195 p0 i11 a22 a20_41 a21_112 z_116)
noncomputable def f_m12_readsRank_b_137 (p0 : Int32) (i11 : Int32) (a22 : Nat → Int32) (a20_41 : Nat → Int32) (a21_112 : Nat → Int32) (z_116 : Int32) (z_131 : Int32) : Int32 × Int32 × (Nat → Int32) × (Nat → Int32) × (Nat → Int32) :=
  if z_131.toInt = 0 then (f_m12_readsRank_b_140 i11 a22 a20_41 a21_112 z_116) else if z_131.toInt = 1 then (f_m12_readsRank_b_164 i11 a22 a20_41 a21_112 z_116) else (f_m12_readsRank_b_188 p0 i11 a22 a20_41 a21_112 z_116)
noncomputable def f_m12_readsRank_b_229 (a22 : Nat → Int32) (a20_41 : Nat → Int32) (a21_112 : Nat → Int32) (z_116 : Int32) (i11_218 : Int32) : Int32 × Int32 × (Nat → Int32) × (Nat → Int32) × (Nat → Int32) :=
  (z_116, i11_218, a20_41, a21_112, a22)
noncomputable def f_m12_readsRank_b_214 (i11 : Int32) (a22 : Nat → Int32) (a20_41 : Nat → Int32) (a21_112 : Nat → Int32) (z_116 : Int32) : Int32 × Int32 × (Nat → Int32) × (Nat → Int32) × (Nat → Int32) :=
  let i11_218 : Int32 := (F_m12_fails (1 : Int32) z_116 i11)
  (f_m12_readsRank_b_229 a22 a20_41 a21_112 z_116 i11_218)
noncomputable def f_m12_readsRank_b_125 (p0 : Int32) (i10 : Int32) (i11 : Int32) (a1 : Nat → Int32) (a22 : Nat → Int32) (a20_41 : Nat → Int32) (a21_112 : Nat → Int32) (z_116 : Int32) : Int32 × Int32 × (Nat → Int32) × (Nat → Int32) × (Nat → Int32) :=
  let v_126 : Int32 := (F_m12_here z_116 i10 a1)
  let z_131 : Int32 := v_126 - (48 : Int32)
  let v_132 : Int32 := (F_m12_lies z_131 (0 : Int32) (2 : Int32))
  if v_132.toInt ≠ 0 then (f_m12_readsRank_b_137 p0 i11 a22 a20_41 a21_112 z_116 z_131) else (f_m12_readsRank_b_214 i11 a22 a20_41 a21_112 z_116)
noncomputable def f_m12_readsRank_b_118 (p0 : Int32) (i10 : Int32) (i11 : Int32) (a1 : Nat → Int32) (a22 : Nat → Int32) (a20_41 : Nat → Int32) (a21_112 : Nat → Int32) (z_116 : Int32) : Int32 × Int32 × (Nat → Int32) × (Nat → Int32) × (Nat → Int32) :=
  (f_m12_readsRank_b_125 p0 i10 i11 a1 a22 a20_41 a21_112 z_116)
noncomputable def f_m12_readsRank_b_111 (p0 : Int32) (i10 : Int32) (i11 : Int32) (a1 : Nat → Int32) (a21 : Nat → Int32) (a22 : Nat → Int32) (a20_41 : Nat → Int32) (z_45 : Int32) : Int32 × Int32 × (Nat → Int32) × (Nat → Int32) × (Nat → Int32) :=
  let a21_112 : Nat → Int32 := upd a21 p0.toNatClampNeg (1 : Int32)
  let z_116 : Int32 := z_45 + (1 : Int32)
  (f_m12_readsRank_b_118 p0 i10 i11 a1 a22 a20_41 a21_112 z_116)
noncomputable def f_m12_readsRank_b_109 (p0 : Int32) (i10 : Int32) (i11 : Int32) (a1 : Nat → Int32) (a21 : Nat → Int32) (a22 : Nat → Int32) (a20_41 : Nat → Int32) (z_45 : Int32) : Int32 × Int32 × (Nat → Int32) × (Nat → Int32) × (Nat → Int32) :=
  (f_m12_readsRank_b_111 p0 i10 i11 a1 a21 a22 a20_41 z_45)
noncomputable def f_m12_readsRank_b_107 (p0 : Int32) (i10 : Int32) (i11 : Int32) (a1 : Nat → Int32) (a21 : Nat → Int32) (a22 : Nat → Int32) (a20_41 : Nat → Int32) (z_45 : Int32) : Int32 × Int32 × (Nat → Int32) × (Nat → Int32) × (Nat → Int32) :=
  (f_m12_readsRank_b_109 p0 i10 i11 a1 a21 a22 a20_41 z_45)
noncomputable def f_m12_readsRank_b_100 (p0 : Int32) (i10 : Int32) (i11 : Int32) (a1 : Nat → Int32) (a21 : Nat → Int32) (a22 : Nat → Int32) (a20_41 : Nat → Int32) (z_45 : Int32) : Int32 × Int32 × (Nat → Int32) × (Nat → Int32) × (Nat → Int32) :=
  (f_m12_readsRank_b_107 p0 i10 i11 a1 a21 a22 a20_41 z_45)
noncomputable def f_m12_readsRank_b_93 (p0 : Int32) (i10 : Int32) (i11 : Int32) (a1 : Nat → Int32) (a21 : Nat → Int32) (a22 : Nat → Int32) (a20_41 : Nat → Int32) (z_45 : Int32) : Int32 × Int32 × (Nat → Int32) × (Nat → Int32) × (Nat → Int32) :=
  (f_m12_readsRank_b_100 p0 i10 i11 a1 a21 a22 a20_41 z_45)
noncomputable def f_m12_readsRank_b_300 (a22 : Nat → Int32) (a20_41 : Nat → Int32) (a21_250 : Nat → Int32) (z_254 : Int32) (i11_289 : Int32) : Int32 × Int32 × (Nat → Int32) × (Nat → Int32) × (Nat → Int32) :=
  (z_254, i11_289, a20_41, a21_250, a22)
noncomputable def f_m12_readsRank_b_285 (i11 : Int32) (a22 : Nat → Int32) (a20_41 : Nat → Int32) (a21_250 : Nat → Int32) (z_254 : Int32) : Int32 × Int32 × (Nat → Int32) × (Nat → Int32) × (Nat → Int32) :=
  let i11_289 : Int32 := (F_m12_fails (6 : Int32) z_254 i11)
  (f_m12_readsRank_b_300 a22 a20_41 a21_250 z_254 i11_289)
noncomputable def f_m12_readsRank_b_278 (i11 : Int32) (a22 : Nat → Int32) (a20_41 : Nat → Int32) (a21_250 : Nat → Int32) (z_254 : Int32) : Int32 × Int32 × (Nat → Int32) × (Nat → Int32) × (Nat → Int32) :=
  (f_m12_readsRank_b_285 i11 a22 a20_41 a21_250 z_254)
noncomputable def f_m12_readsRank_b_327 (i11 : Int32) (a20_41 : Nat → Int32) (a21_250 : Nat → Int32) (a22_321 : Nat → Int32) (z_325 : Int32) : Int32 × Int32 × (Nat → Int32) × (Nat → Int32) × (Nat → Int32) :=
  (z_325, i11, a20_41, a21_250, a22_321)
noncomputable def f_m12_readsRank_b_320 (p0 : Int32) (i11 : Int32) (a22 : Nat → Int32) (a20_41 : Nat → Int32) (a21_250 : Nat → Int32) (z_254 : Int32) : Int32 × Int32 × (Nat → Int32) × (Nat → Int32) × (Nat → Int32) :=
  let a22_321 : Nat → Int32 := upd a22 p0.toNatClampNeg (1 : Int32)
  let z_325 : Int32 := z_254 + (1 : Int32)
  (f_m12_readsRank_b_327 i11 a20_41 a21_250 a22_321 z_325)
noncomputable def f_m12_readsRank_b_318 (p0 : Int32) (i11 : Int32) (a22 : Nat → Int32) (a20_41 : Nat → Int32) (a21_250 : Nat → Int32) (z_254 : Int32) : Int32 × Int32 × (Nat → Int32) × (Nat → Int32) × (Nat → Int32) :=
  (f_m12_readsRank_b_320 p0 i11 a22 a20_41 a21_250 z_254)
noncomputable def f_m12_readsRank_b_316 (p0 : Int32) (i11 : Int32) (a22 : Nat → Int32) (a20_41 : Nat → Int32) (a21_250 : Nat → Int32) (z_254 : Int32) : Int32 × Int32 × (Nat → Int32) × (Nat → Int32) × (Nat → Int32) :=
  (f_m12_readsRank_b_318 p0 i11 a22 a20_41 a21_250 z_254)
noncomputable def f_m12_readsRank_b_309 (p0 : Int32) (i11 : Int32) (a22 : Nat → Int32) (a20_41 : Nat → Int32) (a21_250 : Nat → Int32) (z_254 : Int32) : Int32 × Int32 × (Nat → Int32) × (Nat → Int32) × (Nat → Int32) :=
  (f_m12_readsRank_b_316 p0 i11 a22 a20_41 a21_250 z_254)
noncomputable def f_m12_readsRank_b_302 (p0 : Int32) (i11 : Int32) (a22 : Nat → Int32) (a20_41 : Nat → Int32) (a21_250 : Nat → Int32) (z_254 : Int32) : Int32 × Int32 × (Nat → Int32) × (Nat → Int32) × (Nat → Int32) :=
  (f_m12_readsRank_b_309 p0 i11 a22 a20_41 a21_250 z_254)
noncomputable def f_m12_readsRank_b_351 (a22 : Nat → Int32) (a20_41 : Nat → Int32) (a21_250 : Nat → Int32) (z_254 : Int32) (i11_340 : Int32) : Int32 × Int32 × (Nat → Int32) × (Nat → Int32) × (Nat → Int32) :=
  (z_254, i11_340, a20_41, a21_250, a22)
noncomputable def f_m12_readsRank_b_336 (i11 : Int32) (a22 : Nat → Int32) (a20_41 : Nat → Int32) (a21_250 : Nat → Int32) (z_254 : Int32) : Int32 × Int32 × (Nat → Int32) × (Nat → Int32) × (Nat → Int32) :=
  let i11_340 : Int32 := (F_m12_fails (6 : Int32) z_254 i11)
  (f_m12_readsRank_b_351 a22 a20_41 a21_250 z_254 i11_340)
noncomputable def f_m12_readsRank_b_329 (i11 : Int32) (a22 : Nat → Int32) (a20_41 : Nat → Int32) (a21_250 : Nat → Int32) (z_254 : Int32) : Int32 × Int32 × (Nat → Int32) × (Nat → Int32) × (Nat → Int32) :=
  (f_m12_readsRank_b_336 i11 a22 a20_41 a21_250 z_254)
noncomputable def f_m12_readsRank_b_275 (p0 : Int32) (i11 : Int32) (a22 : Nat → Int32) (a20_41 : Nat → Int32) (a21_250 : Nat → Int32) (z_254 : Int32) (z_269 : Int32) : Int32 × Int32 × (Nat → Int32) × (Nat → Int32) × (Nat → Int32) :=
  if z_269.toInt = 0 then (f_m12_readsRank_b_278 i11 a22 a20_41 a21_250 z_254) else if z_269.toInt = 1 then (f_m12_readsRank_b_302 p0 i11 a22 a20_41 a21_250 z_254) else (f_m12_readsRank_b_329 i11 a22 a20_41 a21_250 z_254)
noncomputable def f_m12_readsRank_b_367 (a22 : Nat → Int32) (a20_41 : Nat → Int32) (a21_250 : Nat → Int32) (z_254 : Int32) (i11_356 : Int32) : Int32 × Int32 × (Nat → Int32) × (Nat → Int32) × (Nat → Int32) :=
  (z_254, i11_356, a20_41, a21_250, a22)
noncomputable def f_m12_readsRank_b_352 (i11 : Int32) (a22 : Nat → Int32) (a20_41 : Nat → Int32) (a21_250 : Nat → Int32) (z_254 : Int32) : Int32 × Int32 × (Nat → Int32) × (Nat → Int32) × (Nat → Int32) :=
  let i11_356 : Int32 := (F_m12_fails (1 : Int32) z_254 i11)
  (f_m12_readsRank_b_367 a22 a20_41 a21_250 z_254 i11_356)
noncomputable def f_m12_readsRank_b_263 (p0 : Int32) (i10 : Int32) (i11 : Int32) (a1 : Nat → Int32) (a22 : Nat → Int32) (a20_41 : Nat → Int32) (a21_250 : Nat → Int32) (z_254 : Int32) : Int32 × Int32 × (Nat → Int32) × (Nat → Int32) × (Nat → Int32) :=
  let v_264 : Int32 := (F_m12_here z_254 i10 a1)
  let z_269 : Int32 := v_264 - (48 : Int32)
  let v_270 : Int32 := (F_m12_lies z_269 (0 : Int32) (2 : Int32))
  if v_270.toInt ≠ 0 then (f_m12_readsRank_b_275 p0 i11 a22 a20_41 a21_250 z_254 z_269) else (f_m12_readsRank_b_352 i11 a22 a20_41 a21_250 z_254)
noncomputable def f_m12_readsRank_b_256 (p0 : Int32) (i10 : Int32) (i11 : Int32) (a1 : Nat → Int32) (a22 : Nat → Int32) (a20_41 : Nat → Int32) (a21_250 : Nat → Int32) (z_254 : Int32) : Int32 × Int32 × (Nat → Int32) × (Nat → Int32) × (Nat → Int32) :=
  (f_m12_readsRank_b_263 p0 i10 i11 a1 a22 a20_41 a21_250 z_254)
noncomputable def f_m12_readsRank_b_249 (p0 : Int32) (i10 : Int32) (i11 : Int32) (a1 : Nat → Int32) (a21 : Nat → Int32) (a22 : Nat → Int32) (a20_41 : Nat → Int32) (z_45 : Int32) : Int32 × Int32 × (Nat → Int32) × (Nat → Int32) × (Nat → Int32) :=
  let a21_250 : Nat → Int32 := upd a21 p0.toNatClampNeg (2 : Int32)
  let z_254 : Int32 := z_45 + (1 : Int32)
  (f_m12_readsRank_b_256 p0 i10 i11 a1 a22 a20_41 a21_250 z_254)
noncomputable def f_m12_readsRank_b_247 (p0 : Int32) (i10 : Int32) (i11 : Int32) (a1 : Nat → Int32) (a21 : Nat → Int32) (a22 : Nat → Int32) (a20_41 : Nat → Int32) (z_45 : Int32) : Int32 × Int32 × (Nat → Int32) × (Nat → Int32) × (Nat → Int32) :=
  (f_m12_readsRank_b_249 p0 i10 i11 a1 a21 a22 a20_41 z_45)
noncomputable def f_m12_readsRank_b_245 (p0 : Int32) (i10 : Int32) (i11 : Int32) (a1 : Nat → Int32) (a21 : Nat → Int32) (a22 : Nat → Int32) (a20_41 : Nat → Int32) (z_45 : Int32) : Int32 × Int32 × (Nat → Int32) × (Nat → Int32) × (Nat → Int32) :=
  (f_m12_readsRank_b_247 p0 i10 i11 a1 a21 a22 a20_41 z_45)
noncomputable def f_m12_readsRank_b_238 (p0 : Int32) (i10 : Int32) (i11 : Int32) (a1 : Nat → Int32) (a21 : Nat → Int32) (a22 : Nat → Int32) (a20_41 : Nat → Int32) (z_45 : Int32) : Int32 × Int32 × (Nat → Int32) × (Nat → Int32) × (Nat → Int32) :=
  (f_m12_readsRank_b_245 p0 i10 i11 a1 a21 a22 a20_41 z_45)
noncomputable def f_m12_readsRank_b_231 (p0 : Int32) (i10 : Int32) (i11 : Int32) (a1 : Nat → Int32) (a21 : Nat → Int32) (a22 : Nat → Int32) (a20_41 : Nat → Int32) (z_45 : Int32) : Int32 × Int32 × (Nat → Int32) × (Nat → Int32) × (Nat → Int32) :=
  (f_m12_readsRank_b_238 p0 i10 i11 a1 a21 a22 a20_41 z_45)
noncomputable def f_m12_readsRank_b_66 (p0 : Int32) (i10 : Int32) (i11 : Int32) (a1 : Nat → Int32) (a21 : Nat → Int32) (a22 : Nat → Int32) (a20_41 : Nat → Int32) (z_45 : Int32) (z_60 : Int32) : Int32 × Int32 × (Nat → Int32) × (Nat → Int32) × (Nat → Int32) :=
  if z_60.toInt = 0 then (f_m12_readsRank_b_69 i11 a21 a22 a20_41 z_45) else if z_60.toInt = 1 then (f_m12_readsRank_b_93 p0 i10 i11 a1 a21 a22 a20_41 z_45) else (f_m12_readsRank_b_231 p0 i10 i11 a1 a21 a22 a20_41 z_45)
noncomputable def f_m12_readsRank_b_383 (a21 : Nat → Int32) (a22 : Nat → Int32) (a20_41 : Nat → Int32) (z_45 : Int32) (i11_372 : Int32) : Int32 × Int32 × (Nat → Int32) × (Nat → Int32) × (Nat → Int32) :=
  (z_45, i11_372, a20_41, a21, a22)
noncomputable def f_m12_readsRank_b_368 (i11 : Int32) (a21 : Nat → Int32) (a22 : Nat → Int32) (a20_41 : Nat → Int32) (z_45 : Int32) : Int32 × Int32 × (Nat → Int32) × (Nat → Int32) × (Nat → Int32) :=
  let i11_372 : Int32 := (F_m12_fails (1 : Int32) z_45 i11)
  (f_m12_readsRank_b_383 a21 a22 a20_41 z_45 i11_372)
noncomputable def f_m12_readsRank_b_54 (p0 : Int32) (i10 : Int32) (i11 : Int32) (a1 : Nat → Int32) (a21 : Nat → Int32) (a22 : Nat → Int32) (a20_41 : Nat → Int32) (z_45 : Int32) : Int32 × Int32 × (Nat → Int32) × (Nat → Int32) × (Nat → Int32) :=
  let v_55 : Int32 := (F_m12_here z_45 i10 a1)
  let z_60 : Int32 := v_55 - (48 : Int32)
  let v_61 : Int32 := (F_m12_lies z_60 (0 : Int32) (2 : Int32))
  if v_61.toInt ≠ 0 then (f_m12_readsRank_b_66 p0 i10 i11 a1 a21 a22 a20_41 z_45 z_60) else (f_m12_readsRank_b_368 i11 a21 a22 a20_41 z_45)
noncomputable def f_m12_readsRank_b_47 (p0 : Int32) (i10 : Int32) (i11 : Int32) (a1 : Nat → Int32) (a21 : Nat → Int32) (a22 : Nat → Int32) (a20_41 : Nat → Int32) (z_45 : Int32) : Int32 × Int32 × (Nat → Int32) × (Nat → Int32) × (Nat → Int32) :=
  (f_m12_readsRank_b_54 p0 i10 i11 a1 a21 a22 a20_41 z_45)
noncomputable def f_m12_readsRank_b_40 (p0 : Int32) (i9 : Int32) (i10 : Int32) (i11 : Int32) (a1 : Nat → Int32) (a20 : Nat → Int32) (a21 : Nat → Int32) (a22 : Nat → Int32) : Int32 × Int32 × (Nat → Int32) × (Nat → Int32) × (Nat → Int32) :=
  let a20_41 : Nat → Int32 := upd a20 p0.toNatClampNeg (0 : Int32)
  let z_45 : Int32 := i9 + (1 : Int32)
  (f_m12_readsRank_b_47 p0 i10 i11 a1 a21 a22 a20_41 z_45)
noncomputable def f_m12_readsRank_b_38 (p0 : Int32) (i9 : Int32) (i10 : Int32) (i11 : Int32) (a1 : Nat → Int32) (a20 : Nat → Int32) (a21 : Nat → Int32) (a22 : Nat → Int32) : Int32 × Int32 × (Nat → Int32) × (Nat → Int32) × (Nat → Int32) :=
  (f_m12_readsRank_b_40 p0 i9 i10 i11 a1 a20 a21 a22)
noncomputable def f_m12_readsRank_b_31 (p0 : Int32) (i9 : Int32) (i10 : Int32) (i11 : Int32) (a1 : Nat → Int32) (a20 : Nat → Int32) (a21 : Nat → Int32) (a22 : Nat → Int32) : Int32 × Int32 × (Nat → Int32) × (Nat → Int32) × (Nat → Int32) :=
  (f_m12_readsRank_b_38 p0 i9 i10 i11 a1 a20 a21 a22)
noncomputable def f_m12_readsRank_b_24 (p0 : Int32) (i9 : Int32) (i10 : Int32) (i11 : Int32) (a1 : Nat → Int32) (a20 : Nat → Int32) (a21 : Nat → Int32) (a22 : Nat → Int32) : Int32 × Int32 × (Nat → Int32) × (Nat → Int32) × (Nat → Int32) :=
  (f_m12_readsRank_b_31 p0 i9 i10 i11 a1 a20 a21 a22)
noncomputable def f_m12_readsRank_b_499 (a22 : Nat → Int32) (a20_402 : Nat → Int32) (a21_449 : Nat → Int32) (z_453 : Int32) (i11_488 : Int32) : Int32 × Int32 × (Nat → Int32) × (Nat → Int32) × (Nat → Int32) :=
  (z_453, i11_488, a20_402, a21_449, a22)
noncomputable def f_m12_readsRank_b_484 (i11 : Int32) (a22 : Nat → Int32) (a20_402 : Nat → Int32) (a21_449 : Nat → Int32) (z_453 : Int32) : Int32 × Int32 × (Nat → Int32) × (Nat → Int32) × (Nat → Int32) :=
  let i11_488 : Int32 := (F_m12_fails (6 : Int32) z_453 i11)
  (f_m12_readsRank_b_499 a22 a20_402 a21_449 z_453 i11_488)
noncomputable def f_m12_readsRank_b_477 (i11 : Int32) (a22 : Nat → Int32) (a20_402 : Nat → Int32) (a21_449 : Nat → Int32) (z_453 : Int32) : Int32 × Int32 × (Nat → Int32) × (Nat → Int32) × (Nat → Int32) :=
  (f_m12_readsRank_b_484 i11 a22 a20_402 a21_449 z_453)
noncomputable def f_m12_readsRank_b_523 (a22 : Nat → Int32) (a20_402 : Nat → Int32) (a21_449 : Nat → Int32) (z_453 : Int32) (i11_512 : Int32) : Int32 × Int32 × (Nat → Int32) × (Nat → Int32) × (Nat → Int32) :=
  (z_453, i11_512, a20_402, a21_449, a22)
noncomputable def f_m12_readsRank_b_508 (i11 : Int32) (a22 : Nat → Int32) (a20_402 : Nat → Int32) (a21_449 : Nat → Int32) (z_453 : Int32) : Int32 × Int32 × (Nat → Int32) × (Nat → Int32) × (Nat → Int32) :=
  let i11_512 : Int32 := (F_m12_fails (6 : Int32) z_453 i11)
  (f_m12_readsRank_b_523 a22 a20_402 a21_449 z_453 i11_512)
noncomputable def f_m12_readsRank_b_501 (i11 : Int32) (a22 : Nat → Int32) (a20_402 : Nat → Int32) (a21_449 : Nat → Int32) (z_453 : Int32) : Int32 × Int32 × (Nat → Int32) × (Nat → Int32) × (Nat → Int32) :=
  (f_m12_readsRank_b_508 i11 a22 a20_402 a21_449 z_453)
noncomputable def f_m12_readsRank_b_550 (i11 : Int32) (a20_402 : Nat → Int32) (a21_449 : Nat → Int32) (a22_544 : Nat → Int32) (z_548 : Int32) : Int32 × Int32 × (Nat → Int32) × (Nat → Int32) × (Nat → Int32) :=
  (z_548, i11, a20_402, a21_449, a22_544)
noncomputable def f_m12_readsRank_b_543 (p0 : Int32) (i11 : Int32) (a22 : Nat → Int32) (a20_402 : Nat → Int32) (a21_449 : Nat → Int32) (z_453 : Int32) : Int32 × Int32 × (Nat → Int32) × (Nat → Int32) × (Nat → Int32) :=
  let a22_544 : Nat → Int32 := upd a22 p0.toNatClampNeg (2 : Int32)
  let z_548 : Int32 := z_453 + (1 : Int32)
  (f_m12_readsRank_b_550 i11 a20_402 a21_449 a22_544 z_548)
noncomputable def f_m12_readsRank_b_541 (p0 : Int32) (i11 : Int32) (a22 : Nat → Int32) (a20_402 : Nat → Int32) (a21_449 : Nat → Int32) (z_453 : Int32) : Int32 × Int32 × (Nat → Int32) × (Nat → Int32) × (Nat → Int32) :=
  (f_m12_readsRank_b_543 p0 i11 a22 a20_402 a21_449 z_453)
noncomputable def f_m12_readsRank_b_539 (p0 : Int32) (i11 : Int32) (a22 : Nat → Int32) (a20_402 : Nat → Int32) (a21_449 : Nat → Int32) (z_453 : Int32) : Int32 × Int32 × (Nat → Int32) × (Nat → Int32) × (Nat → Int32) :=
  (f_m12_readsRank_b_541 p0 i11 a22 a20_402 a21_449 z_453)
noncomputable def f_m12_readsRank_b_532 (p0 : Int32) (i11 : Int32) (a22 : Nat → Int32) (a20_402 : Nat → Int32) (a21_449 : Nat → Int32) (z_453 : Int32) : Int32 × Int32 × (Nat → Int32) × (Nat → Int32) × (Nat → Int32) :=
  (f_m12_readsRank_b_539 p0 i11 a22 a20_402 a21_449 z_453)
noncomputable def f_m12_readsRank_b_525 (p0 : Int32) (i11 : Int32) (a22 : Nat → Int32) (a20_402 : Nat → Int32) (a21_449 : Nat → Int32) (z_453 : Int32) : Int32 × Int32 × (Nat → Int32) × (Nat → Int32) × (Nat → Int32) :=
  (f_m12_readsRank_b_532 p0 i11 a22 a20_402 a21_449 z_453)
noncomputable def f_m12_readsRank_b_474 (p0 : Int32) (i11 : Int32) (a22 : Nat → Int32) (a20_402 : Nat → Int32) (a21_449 : Nat → Int32) (z_453 : Int32) (z_468 : Int32) : Int32 × Int32 × (Nat → Int32) × (Nat → Int32) × (Nat → Int32) :=
  if z_468.toInt = 0 then (f_m12_readsRank_b_477 i11 a22 a20_402 a21_449 z_453) else if z_468.toInt = 1 then (f_m12_readsRank_b_501 i11 a22 a20_402 a21_449 z_453) else (f_m12_readsRank_b_525 p0 i11 a22 a20_402 a21_449 z_453)
noncomputable def f_m12_readsRank_b_566 (a22 : Nat → Int32) (a20_402 : Nat → Int32) (a21_449 : Nat → Int32) (z_453 : Int32) (i11_555 : Int32) : Int32 × Int32 × (Nat → Int32) × (Nat → Int32) × (Nat → Int32) :=
  (z_453, i11_555, a20_402, a21_449, a22)
noncomputable def f_m12_readsRank_b_551 (i11 : Int32) (a22 : Nat → Int32) (a20_402 : Nat → Int32) (a21_449 : Nat → Int32) (z_453 : Int32) : Int32 × Int32 × (Nat → Int32) × (Nat → Int32) × (Nat → Int32) :=
  let i11_555 : Int32 := (F_m12_fails (1 : Int32) z_453 i11)
  (f_m12_readsRank_b_566 a22 a20_402 a21_449 z_453 i11_555)
noncomputable def f_m12_readsRank_b_462 (p0 : Int32) (i10 : Int32) (i11 : Int32) (a1 : Nat → Int32) (a22 : Nat → Int32) (a20_402 : Nat → Int32) (a21_449 : Nat → Int32) (z_453 : Int32) : Int32 × Int32 × (Nat → Int32) × (Nat → Int32) × (Nat → Int32) :=
  let v_463 : Int32 := (F_m12_here z_453 i10 a1)
  let z_468 : Int32 := v_463 - (48 : Int32)
  let v_469 : Int32 := (F_m12_lies z_468 (0 : Int32) (2 : Int32))
  if v_469.toInt ≠ 0 then (f_m12_readsRank_b_474 p0 i11 a22 a20_402 a21_449 z_453 z_468) else (f_m12_readsRank_b_551 i11 a22 a20_402 a21_449 z_453)
