
def f_m12_readsRank_b_91 (a21 : Nat → Int32) (a22 : Nat → Int32) (a20_41 : Nat → Int32) (z_45 : Int32) (i11_80 : Int32) : Int32 × Int32 × (Nat → Int32) × (Nat → Int32) × (Nat → Int32) :=
  (z_45, i11_80, a20_41, a21, a22)
theorem f_m12_readsRank_b_91_r {a21 : Nat → Int32} {a22 : Nat → Int32} {a20_41 : Nat → Int32} {z_45 : Int32} {i11_80 : Int32}  : f_m12_readsRank_b_91 a21 a22 a20_41 z_45 i11_80 = (z_45, i11_80, a20_41, a21, a22) := by rfl
def f_m12_readsRank_b_76 (i11 : Int32) (a21 : Nat → Int32) (a22 : Nat → Int32) (a20_41 : Nat → Int32) (z_45 : Int32) : Int32 × Int32 × (Nat → Int32) × (Nat → Int32) × (Nat → Int32) :=
  let i11_80 : Int32 := (F_m12_fails (6 : Int32) z_45 i11)
  (f_m12_readsRank_b_91 a21 a22 a20_41 z_45 i11_80)
theorem f_m12_readsRank_b_76_s1 {i11 : Int32} {a21 : Nat → Int32} {a22 : Nat → Int32} {a20_41 : Nat → Int32} {z_45 : Int32} {i11_80 : Int32} (e_i11_80 : i11_80 = (F_m12_fails (6 : Int32) z_45 i11)) : f_m12_readsRank_b_76 i11 a21 a22 a20_41 z_45 = (f_m12_readsRank_b_91 a21 a22 a20_41 z_45 i11_80) := by replace e_i11_80 := e_i11_80.symm; subst e_i11_80; rfl
def f_m12_readsRank_b_69 (i11 : Int32) (a21 : Nat → Int32) (a22 : Nat → Int32) (a20_41 : Nat → Int32) (z_45 : Int32) : Int32 × Int32 × (Nat → Int32) × (Nat → Int32) × (Nat → Int32) :=
  (f_m12_readsRank_b_76 i11 a21 a22 a20_41 z_45)
theorem f_m12_readsRank_b_69_s1 {i11 : Int32} {a21 : Nat → Int32} {a22 : Nat → Int32} {a20_41 : Nat → Int32} {z_45 : Int32}  : f_m12_readsRank_b_69 i11 a21 a22 a20_41 z_45 = (f_m12_readsRank_b_76 i11 a21 a22 a20_41 z_45) := by rfl
def f_m12_readsRank_b_162 (a22 : Nat → Int32) (a20_41 : Nat → Int32) (a21_112 : Nat → Int32) (z_116 : Int32) (i11_151 : Int32) : Int32 × Int32 × (Nat → Int32) × (Nat → Int32) × (Nat → Int32) :=
  (z_116, i11_151, a20_41, a21_112, a22)
theorem f_m12_readsRank_b_162_r {a22 : Nat → Int32} {a20_41 : Nat → Int32} {a21_112 : Nat → Int32} {z_116 : Int32} {i11_151 : Int32}  : f_m12_readsRank_b_162 a22 a20_41 a21_112 z_116 i11_151 = (z_116, i11_151, a20_41, a21_112, a22) := by rfl
def f_m12_readsRank_b_147 (i11 : Int32) (a22 : Nat → Int32) (a20_41 : Nat → Int32) (a21_112 : Nat → Int32) (z_116 : Int32) : Int32 × Int32 × (Nat → Int32) × (Nat → Int32) × (Nat → Int32) :=
  let i11_151 : Int32 := (F_m12_fails (6 : Int32) z_116 i11)
  (f_m12_readsRank_b_162 a22 a20_41 a21_112 z_116 i11_151)
theorem f_m12_readsRank_b_147_s1 {i11 : Int32} {a22 : Nat → Int32} {a20_41 : Nat → Int32} {a21_112 : Nat → Int32} {z_116 : Int32} {i11_151 : Int32} (e_i11_151 : i11_151 = (F_m12_fails (6 : Int32) z_116 i11)) : f_m12_readsRank_b_147 i11 a22 a20_41 a21_112 z_116 = (f_m12_readsRank_b_162 a22 a20_41 a21_112 z_116 i11_151) := by replace e_i11_151 := e_i11_151.symm; subst e_i11_151; rfl
def f_m12_readsRank_b_140 (i11 : Int32) (a22 : Nat → Int32) (a20_41 : Nat → Int32) (a21_112 : Nat → Int32) (z_116 : Int32) : Int32 × Int32 × (Nat → Int32) × (Nat → Int32) × (Nat → Int32) :=
  (f_m12_readsRank_b_147 i11 a22 a20_41 a21_112 z_116)
theorem f_m12_readsRank_b_140_s1 {i11 : Int32} {a22 : Nat → Int32} {a20_41 : Nat → Int32} {a21_112 : Nat → Int32} {z_116 : Int32}  : f_m12_readsRank_b_140 i11 a22 a20_41 a21_112 z_116 = (f_m12_readsRank_b_147 i11 a22 a20_41 a21_112 z_116) := by rfl
def f_m12_readsRank_b_186 (a22 : Nat → Int32) (a20_41 : Nat → Int32) (a21_112 : Nat → Int32) (z_116 : Int32) (i11_175 : Int32) : Int32 × Int32 × (Nat → Int32) × (Nat → Int32) × (Nat → Int32) :=
  (z_116, i11_175, a20_41, a21_112, a22)
theorem f_m12_readsRank_b_186_r {a22 : Nat → Int32} {a20_41 : Nat → Int32} {a21_112 : Nat → Int32} {z_116 : Int32} {i11_175 : Int32}  : f_m12_readsRank_b_186 a22 a20_41 a21_112 z_116 i11_175 = (z_116, i11_175, a20_41, a21_112, a22) := by rfl
def f_m12_readsRank_b_171 (i11 : Int32) (a22 : Nat → Int32) (a20_41 : Nat → Int32) (a21_112 : Nat → Int32) (z_116 : Int32) : Int32 × Int32 × (Nat → Int32) × (Nat → Int32) × (Nat → Int32) :=
  let i11_175 : Int32 := (F_m12_fails (6 : Int32) z_116 i11)
  (f_m12_readsRank_b_186 a22 a20_41 a21_112 z_116 i11_175)
theorem f_m12_readsRank_b_171_s1 {i11 : Int32} {a22 : Nat → Int32} {a20_41 : Nat → Int32} {a21_112 : Nat → Int32} {z_116 : Int32} {i11_175 : Int32} (e_i11_175 : i11_175 = (F_m12_fails (6 : Int32) z_116 i11)) : f_m12_readsRank_b_171 i11 a22 a20_41 a21_112 z_116 = (f_m12_readsRank_b_186 a22 a20_41 a21_112 z_116 i11_175) := by replace e_i11_175 := e_i11_175.symm; subst e_i11_175; rfl
def f_m12_readsRank_b_164 (i11 : Int32) (a22 : Nat → Int32) (a20_41 : Nat → Int32) (a21_112 : Nat → Int32) (z_116 : Int32) : Int32 × Int32 × (Nat → Int32) × (Nat → Int32) × (Nat → Int32) :=
  (f_m12_readsRank_b_171 i11 a22 a20_41 a21_112 z_116)
theorem f_m12_readsRank_b_164_s1 {i11 : Int32} {a22 : Nat → Int32} {a20_41 : Nat → Int32} {a21_112 : Nat → Int32} {z_116 : Int32}  : f_m12_readsRank_b_164 i11 a22 a20_41 a21_112 z_116 = (f_m12_readsRank_b_171 i11 a22 a20_41 a21_112 z_116) := by rfl
def f_m12_readsRank_b_213 (i11 : Int32) (a20_41 : Nat → Int32) (a21_112 : Nat → Int32) (a22_207 : Nat → Int32) (z_211 : Int32) : Int32 × Int32 × (Nat → Int32) × (Nat → Int32) × (Nat → Int32) :=
  (z_211, i11, a20_41, a21_112, a22_207)
theorem f_m12_readsRank_b_213_r {i11 : Int32} {a20_41 : Nat → Int32} {a21_112 : Nat → Int32} {a22_207 : Nat → Int32} {z_211 : Int32}  : f_m12_readsRank_b_213 i11 a20_41 a21_112 a22_207 z_211 = (z_211, i11, a20_41, a21_112, a22_207) := by rfl
def f_m12_readsRank_b_206 (p0 : Int32) (i11 : Int32) (a22 : Nat → Int32) (a20_41 : Nat → Int32) (a21_112 : Nat → Int32) (z_116 : Int32) : Int32 × Int32 × (Nat → Int32) × (Nat → Int32) × (Nat → Int32) :=
  let a22_207 : Nat → Int32 := upd a22 p0.toNatClampNeg (2 : Int32)
  let z_211 : Int32 := z_116 + (1 : Int32)
  (f_m12_readsRank_b_213 i11 a20_41 a21_112 a22_207 z_211)
theorem f_m12_readsRank_b_206_s0 {p0 : Int32} {i11 : Int32} {a22 : Nat → Int32} {a20_41 : Nat → Int32} {a21_112 : Nat → Int32} {z_116 : Int32} {a22_207 : Nat → Int32} {z_211 : Int32} (e_a22_207 : upd a22 p0.toNatClampNeg (2 : Int32) = a22_207) (e_z_211 : z_211 = z_116 + (1 : Int32)) : f_m12_readsRank_b_206 p0 i11 a22 a20_41 a21_112 z_116 = (f_m12_readsRank_b_213 i11 a20_41 a21_112 a22_207 z_211) := by subst e_a22_207; replace e_z_211 := e_z_211.symm; subst e_z_211; rfl
def f_m12_readsRank_b_204 (p0 : Int32) (i11 : Int32) (a22 : Nat → Int32) (a20_41 : Nat → Int32) (a21_112 : Nat → Int32) (z_116 : Int32) : Int32 × Int32 × (Nat → Int32) × (Nat → Int32) × (Nat → Int32) :=
  (f_m12_readsRank_b_206 p0 i11 a22 a20_41 a21_112 z_116)
theorem f_m12_readsRank_b_204_s0 {p0 : Int32} {i11 : Int32} {a22 : Nat → Int32} {a20_41 : Nat → Int32} {a21_112 : Nat → Int32} {z_116 : Int32}  : f_m12_readsRank_b_204 p0 i11 a22 a20_41 a21_112 z_116 = (f_m12_readsRank_b_206 p0 i11 a22 a20_41 a21_112 z_116) := by rfl
def f_m12_readsRank_b_202 (p0 : Int32) (i11 : Int32) (a22 : Nat → Int32) (a20_41 : Nat → Int32) (a21_112 : Nat → Int32) (z_116 : Int32) : Int32 × Int32 × (Nat → Int32) × (Nat → Int32) × (Nat → Int32) :=
  (f_m12_readsRank_b_204 p0 i11 a22 a20_41 a21_112 z_116)
theorem f_m12_readsRank_b_202_s0 {p0 : Int32} {i11 : Int32} {a22 : Nat → Int32} {a20_41 : Nat → Int32} {a21_112 : Nat → Int32} {z_116 : Int32}  : f_m12_readsRank_b_202 p0 i11 a22 a20_41 a21_112 z_116 = (f_m12_readsRank_b_204 p0 i11 a22 a20_41 a21_112 z_116) := by rfl
def f_m12_readsRank_b_195 (p0 : Int32) (i11 : Int32) (a22 : Nat → Int32) (a20_41 : Nat → Int32) (a21_112 : Nat → Int32) (z_116 : Int32) : Int32 × Int32 × (Nat → Int32) × (Nat → Int32) × (Nat → Int32) :=
  (f_m12_readsRank_b_202 p0 i11 a22 a20_41 a21_112 z_116)
theorem f_m12_readsRank_b_195_s0 {p0 : Int32} {i11 : Int32} {a22 : Nat → Int32} {a20_41 : Nat → Int32} {a21_112 : Nat → Int32} {z_116 : Int32}  : f_m12_readsRank_b_195 p0 i11 a22 a20_41 a21_112 z_116 = (f_m12_readsRank_b_202 p0 i11 a22 a20_41 a21_112 z_116) := by rfl
def f_m12_readsRank_b_188 (p0 : Int32) (i11 : Int32) (a22 : Nat → Int32) (a20_41 : Nat → Int32) (a21_112 : Nat → Int32) (z_116 : Int32) : Int32 × Int32 × (Nat → Int32) × (Nat → Int32) × (Nat → Int32) :=
  (f_m12_readsRank_b_195 p0 i11 a22 a20_41 a21_112 z_116)
theorem f_m12_readsRank_b_188_s0 {p0 : Int32} {i11 : Int32} {a22 : Nat → Int32} {a20_41 : Nat → Int32} {a21_112 : Nat → Int32} {z_116 : Int32}  : f_m12_readsRank_b_188 p0 i11 a22 a20_41 a21_112 z_116 = (f_m12_readsRank_b_195 p0 i11 a22 a20_41 a21_112 z_116) := by rfl
def f_m12_readsRank_b_137 (p0 : Int32) (i11 : Int32) (a22 : Nat → Int32) (a20_41 : Nat → Int32) (a21_112 : Nat → Int32) (z_116 : Int32) (z_131 : Int32) : Int32 × Int32 × (Nat → Int32) × (Nat → Int32) × (Nat → Int32) :=
  if z_131.toInt = 0 then (f_m12_readsRank_b_140 i11 a22 a20_41 a21_112 z_116) else if z_131.toInt = 1 then (f_m12_readsRank_b_164 i11 a22 a20_41 a21_112 z_116) else (f_m12_readsRank_b_188 p0 i11 a22 a20_41 a21_112 z_116)
theorem f_m12_readsRank_b_137_c0 {p0 : Int32} {i11 : Int32} {a22 : Nat → Int32} {a20_41 : Nat → Int32} {a21_112 : Nat → Int32} {z_116 : Int32} {z_131 : Int32}  (hc : z_131.toInt = 0) : f_m12_readsRank_b_137 p0 i11 a22 a20_41 a21_112 z_116 z_131 = (f_m12_readsRank_b_140 i11 a22 a20_41 a21_112 z_116) := by exact if_pos hc
theorem f_m12_readsRank_b_137_c1 {p0 : Int32} {i11 : Int32} {a22 : Nat → Int32} {a20_41 : Nat → Int32} {a21_112 : Nat → Int32} {z_116 : Int32} {z_131 : Int32}  (hc : z_131.toInt = 1) : f_m12_readsRank_b_137 p0 i11 a22 a20_41 a21_112 z_116 z_131 = (f_m12_readsRank_b_164 i11 a22 a20_41 a21_112 z_116) := by exact (if_neg (by omega)).trans (if_pos hc)
theorem f_m12_readsRank_b_137_c2 {p0 : Int32} {i11 : Int32} {a22 : Nat → Int32} {a20_41 : Nat → Int32} {a21_112 : Nat → Int32} {z_116 : Int32} {z_131 : Int32}  (hc : z_131.toInt = 2) : f_m12_readsRank_b_137 p0 i11 a22 a20_41 a21_112 z_116 z_131 = (f_m12_readsRank_b_188 p0 i11 a22 a20_41 a21_112 z_116) := by exact (if_neg (by omega)).trans ((if_neg (by omega)).trans (rfl))
def f_m12_readsRank_b_229 (a22 : Nat → Int32) (a20_41 : Nat → Int32) (a21_112 : Nat → Int32) (z_116 : Int32) (i11_218 : Int32) : Int32 × Int32 × (Nat → Int32) × (Nat → Int32) × (Nat → Int32) :=
  (z_116, i11_218, a20_41, a21_112, a22)
theorem f_m12_readsRank_b_229_r {a22 : Nat → Int32} {a20_41 : Nat → Int32} {a21_112 : Nat → Int32} {z_116 : Int32} {i11_218 : Int32}  : f_m12_readsRank_b_229 a22 a20_41 a21_112 z_116 i11_218 = (z_116, i11_218, a20_41, a21_112, a22) := by rfl
def f_m12_readsRank_b_214 (i11 : Int32) (a22 : Nat → Int32) (a20_41 : Nat → Int32) (a21_112 : Nat → Int32) (z_116 : Int32) : Int32 × Int32 × (Nat → Int32) × (Nat → Int32) × (Nat → Int32) :=
  let i11_218 : Int32 := (F_m12_fails (1 : Int32) z_116 i11)
  (f_m12_readsRank_b_229 a22 a20_41 a21_112 z_116 i11_218)
theorem f_m12_readsRank_b_214_s1 {i11 : Int32} {a22 : Nat → Int32} {a20_41 : Nat → Int32} {a21_112 : Nat → Int32} {z_116 : Int32} {i11_218 : Int32} (e_i11_218 : i11_218 = (F_m12_fails (1 : Int32) z_116 i11)) : f_m12_readsRank_b_214 i11 a22 a20_41 a21_112 z_116 = (f_m12_readsRank_b_229 a22 a20_41 a21_112 z_116 i11_218) := by replace e_i11_218 := e_i11_218.symm; subst e_i11_218; rfl
def f_m12_readsRank_b_125 (p0 : Int32) (i10 : Int32) (i11 : Int32) (a1 : Nat → Int32) (a22 : Nat → Int32) (a20_41 : Nat → Int32) (a21_112 : Nat → Int32) (z_116 : Int32) : Int32 × Int32 × (Nat → Int32) × (Nat → Int32) × (Nat → Int32) :=
  let v_126 : Int32 := (F_m12_here z_116 i10 a1)
  let z_131 : Int32 := v_126 - (48 : Int32)
  let v_132 : Int32 := (F_m12_lies z_131 (0 : Int32) (2 : Int32))
  if v_132.toInt ≠ 0 then (f_m12_readsRank_b_137 p0 i11 a22 a20_41 a21_112 z_116 z_131) else (f_m12_readsRank_b_214 i11 a22 a20_41 a21_112 z_116)
theorem f_m12_readsRank_b_125_s0 {p0 : Int32} {i10 : Int32} {i11 : Int32} {a1 : Nat → Int32} {a22 : Nat → Int32} {a20_41 : Nat → Int32} {a21_112 : Nat → Int32} {z_116 : Int32} {v_126 : Int32} {z_131 : Int32} {v_132 : Int32} (e_v_126 : v_126 = (F_m12_here z_116 i10 a1)) (e_z_131 : z_131 = v_126 - (48 : Int32)) (e_v_132 : v_132 = (F_m12_lies z_131 (0 : Int32) (2 : Int32))) (hc : v_132.toInt ≠ 0) : f_m12_readsRank_b_125 p0 i10 i11 a1 a22 a20_41 a21_112 z_116 = (f_m12_readsRank_b_137 p0 i11 a22 a20_41 a21_112 z_116 z_131) := by replace e_v_126 := e_v_126.symm; subst e_v_126; replace e_z_131 := e_z_131.symm; subst e_z_131; replace e_v_132 := e_v_132.symm; subst e_v_132; exact if_pos hc
theorem f_m12_readsRank_b_125_s1 {p0 : Int32} {i10 : Int32} {i11 : Int32} {a1 : Nat → Int32} {a22 : Nat → Int32} {a20_41 : Nat → Int32} {a21_112 : Nat → Int32} {z_116 : Int32} {v_126 : Int32} {z_131 : Int32} {v_132 : Int32} (e_v_126 : v_126 = (F_m12_here z_116 i10 a1)) (e_z_131 : z_131 = v_126 - (48 : Int32)) (e_v_132 : v_132 = (F_m12_lies z_131 (0 : Int32) (2 : Int32))) (hc : ¬ (v_132.toInt ≠ 0)) : f_m12_readsRank_b_125 p0 i10 i11 a1 a22 a20_41 a21_112 z_116 = (f_m12_readsRank_b_214 i11 a22 a20_41 a21_112 z_116) := by replace e_v_126 := e_v_126.symm; subst e_v_126; replace e_z_131 := e_z_131.symm; subst e_z_131; replace e_v_132 := e_v_132.symm; subst e_v_132; exact if_neg hc
def f_m12_readsRank_b_118 (p0 : Int32) (i10 : Int32) (i11 : Int32) (a1 : Nat → Int32) (a22 : Nat → Int32) (a20_41 : Nat → Int32) (a21_112 : Nat → Int32) (z_116 : Int32) : Int32 × Int32 × (Nat → Int32) × (Nat → Int32) × (Nat → Int32) :=
  (f_m12_readsRank_b_125 p0 i10 i11 a1 a22 a20_41 a21_112 z_116)
theorem f_m12_readsRank_b_118_s1 {p0 : Int32} {i10 : Int32} {i11 : Int32} {a1 : Nat → Int32} {a22 : Nat → Int32} {a20_41 : Nat → Int32} {a21_112 : Nat → Int32} {z_116 : Int32}  : f_m12_readsRank_b_118 p0 i10 i11 a1 a22 a20_41 a21_112 z_116 = (f_m12_readsRank_b_125 p0 i10 i11 a1 a22 a20_41 a21_112 z_116) := by rfl
def f_m12_readsRank_b_111 (p0 : Int32) (i10 : Int32) (i11 : Int32) (a1 : Nat → Int32) (a21 : Nat → Int32) (a22 : Nat → Int32) (a20_41 : Nat → Int32) (z_45 : Int32) : Int32 × Int32 × (Nat → Int32) × (Nat → Int32) × (Nat → Int32) :=
  let a21_112 : Nat → Int32 := upd a21 p0.toNatClampNeg (1 : Int32)
  let z_116 : Int32 := z_45 + (1 : Int32)
  (f_m12_readsRank_b_118 p0 i10 i11 a1 a22 a20_41 a21_112 z_116)
theorem f_m12_readsRank_b_111_s1 {p0 : Int32} {i10 : Int32} {i11 : Int32} {a1 : Nat → Int32} {a21 : Nat → Int32} {a22 : Nat → Int32} {a20_41 : Nat → Int32} {z_45 : Int32} {a21_112 : Nat → Int32} {z_116 : Int32} (e_a21_112 : upd a21 p0.toNatClampNeg (1 : Int32) = a21_112) (e_z_116 : z_116 = z_45 + (1 : Int32)) : f_m12_readsRank_b_111 p0 i10 i11 a1 a21 a22 a20_41 z_45 = (f_m12_readsRank_b_118 p0 i10 i11 a1 a22 a20_41 a21_112 z_116) := by subst e_a21_112; replace e_z_116 := e_z_116.symm; subst e_z_116; rfl
def f_m12_readsRank_b_109 (p0 : Int32) (i10 : Int32) (i11 : Int32) (a1 : Nat → Int32) (a21 : Nat → Int32) (a22 : Nat → Int32) (a20_41 : Nat → Int32) (z_45 : Int32) : Int32 × Int32 × (Nat → Int32) × (Nat → Int32) × (Nat → Int32) :=
  (f_m12_readsRank_b_111 p0 i10 i11 a1 a21 a22 a20_41 z_45)
theorem f_m12_readsRank_b_109_s1 {p0 : Int32} {i10 : Int32} {i11 : Int32} {a1 : Nat → Int32} {a21 : Nat → Int32} {a22 : Nat → Int32} {a20_41 : Nat → Int32} {z_45 : Int32}  : f_m12_readsRank_b_109 p0 i10 i11 a1 a21 a22 a20_41 z_45 = (f_m12_readsRank_b_111 p0 i10 i11 a1 a21 a22 a20_41 z_45) := by rfl
def f_m12_readsRank_b_107 (p0 : Int32) (i10 : Int32) (i11 : Int32) (a1 : Nat → Int32) (a21 : Nat → Int32) (a22 : Nat → Int32) (a20_41 : Nat → Int32) (z_45 : Int32) : Int32 × Int32 × (Nat → Int32) × (Nat → Int32) × (Nat → Int32) :=
  (f_m12_readsRank_b_109 p0 i10 i11 a1 a21 a22 a20_41 z_45)
theorem f_m12_readsRank_b_107_s0 {p0 : Int32} {i10 : Int32} {i11 : Int32} {a1 : Nat → Int32} {a21 : Nat → Int32} {a22 : Nat → Int32} {a20_41 : Nat → Int32} {z_45 : Int32}  : f_m12_readsRank_b_107 p0 i10 i11 a1 a21 a22 a20_41 z_45 = (f_m12_readsRank_b_109 p0 i10 i11 a1 a21 a22 a20_41 z_45) := by rfl
def f_m12_readsRank_b_100 (p0 : Int32) (i10 : Int32) (i11 : Int32) (a1 : Nat → Int32) (a21 : Nat → Int32) (a22 : Nat → Int32) (a20_41 : Nat → Int32) (z_45 : Int32) : Int32 × Int32 × (Nat → Int32) × (Nat → Int32) × (Nat → Int32) :=
  (f_m12_readsRank_b_107 p0 i10 i11 a1 a21 a22 a20_41 z_45)
theorem f_m12_readsRank_b_100_s0 {p0 : Int32} {i10 : Int32} {i11 : Int32} {a1 : Nat → Int32} {a21 : Nat → Int32} {a22 : Nat → Int32} {a20_41 : Nat → Int32} {z_45 : Int32}  : f_m12_readsRank_b_100 p0 i10 i11 a1 a21 a22 a20_41 z_45 = (f_m12_readsRank_b_107 p0 i10 i11 a1 a21 a22 a20_41 z_45) := by rfl
def f_m12_readsRank_b_93 (p0 : Int32) (i10 : Int32) (i11 : Int32) (a1 : Nat → Int32) (a21 : Nat → Int32) (a22 : Nat → Int32) (a20_41 : Nat → Int32) (z_45 : Int32) : Int32 × Int32 × (Nat → Int32) × (Nat → Int32) × (Nat → Int32) :=
  (f_m12_readsRank_b_100 p0 i10 i11 a1 a21 a22 a20_41 z_45)
theorem f_m12_readsRank_b_93_s0 {p0 : Int32} {i10 : Int32} {i11 : Int32} {a1 : Nat → Int32} {a21 : Nat → Int32} {a22 : Nat → Int32} {a20_41 : Nat → Int32} {z_45 : Int32}  : f_m12_readsRank_b_93 p0 i10 i11 a1 a21 a22 a20_41 z_45 = (f_m12_readsRank_b_100 p0 i10 i11 a1 a21 a22 a20_41 z_45) := by rfl
def f_m12_readsRank_b_300 (a22 : Nat → Int32) (a20_41 : Nat → Int32) (a21_250 : Nat → Int32) (z_254 : Int32) (i11_289 : Int32) : Int32 × Int32 × (Nat → Int32) × (Nat → Int32) × (Nat → Int32) :=
  (z_254, i11_289, a20_41, a21_250, a22)
theorem f_m12_readsRank_b_300_r {a22 : Nat → Int32} {a20_41 : Nat → Int32} {a21_250 : Nat → Int32} {z_254 : Int32} {i11_289 : Int32}  : f_m12_readsRank_b_300 a22 a20_41 a21_250 z_254 i11_289 = (z_254, i11_289, a20_41, a21_250, a22) := by rfl
def f_m12_readsRank_b_285 (i11 : Int32) (a22 : Nat → Int32) (a20_41 : Nat → Int32) (a21_250 : Nat → Int32) (z_254 : Int32) : Int32 × Int32 × (Nat → Int32) × (Nat → Int32) × (Nat → Int32) :=
  let i11_289 : Int32 := (F_m12_fails (6 : Int32) z_254 i11)
  (f_m12_readsRank_b_300 a22 a20_41 a21_250 z_254 i11_289)
theorem f_m12_readsRank_b_285_s1 {i11 : Int32} {a22 : Nat → Int32} {a20_41 : Nat → Int32} {a21_250 : Nat → Int32} {z_254 : Int32} {i11_289 : Int32} (e_i11_289 : i11_289 = (F_m12_fails (6 : Int32) z_254 i11)) : f_m12_readsRank_b_285 i11 a22 a20_41 a21_250 z_254 = (f_m12_readsRank_b_300 a22 a20_41 a21_250 z_254 i11_289) := by replace e_i11_289 := e_i11_289.symm; subst e_i11_289; rfl
def f_m12_readsRank_b_278 (i11 : Int32) (a22 : Nat → Int32) (a20_41 : Nat → Int32) (a21_250 : Nat → Int32) (z_254 : Int32) : Int32 × Int32 × (Nat → Int32) × (Nat → Int32) × (Nat → Int32) :=
  (f_m12_readsRank_b_285 i11 a22 a20_41 a21_250 z_254)
theorem f_m12_readsRank_b_278_s1 {i11 : Int32} {a22 : Nat → Int32} {a20_41 : Nat → Int32} {a21_250 : Nat → Int32} {z_254 : Int32}  : f_m12_readsRank_b_278 i11 a22 a20_41 a21_250 z_254 = (f_m12_readsRank_b_285 i11 a22 a20_41 a21_250 z_254) := by rfl
def f_m12_readsRank_b_327 (i11 : Int32) (a20_41 : Nat → Int32) (a21_250 : Nat → Int32) (a22_321 : Nat → Int32) (z_325 : Int32) : Int32 × Int32 × (Nat → Int32) × (Nat → Int32) × (Nat → Int32) :=
  (z_325, i11, a20_41, a21_250, a22_321)
theorem f_m12_readsRank_b_327_r {i11 : Int32} {a20_41 : Nat → Int32} {a21_250 : Nat → Int32} {a22_321 : Nat → Int32} {z_325 : Int32}  : f_m12_readsRank_b_327 i11 a20_41 a21_250 a22_321 z_325 = (z_325, i11, a20_41, a21_250, a22_321) := by rfl
def f_m12_readsRank_b_320 (p0 : Int32) (i11 : Int32) (a22 : Nat → Int32) (a20_41 : Nat → Int32) (a21_250 : Nat → Int32) (z_254 : Int32) : Int32 × Int32 × (Nat → Int32) × (Nat → Int32) × (Nat → Int32) :=
  let a22_321 : Nat → Int32 := upd a22 p0.toNatClampNeg (1 : Int32)
  let z_325 : Int32 := z_254 + (1 : Int32)
  (f_m12_readsRank_b_327 i11 a20_41 a21_250 a22_321 z_325)
theorem f_m12_readsRank_b_320_s0 {p0 : Int32} {i11 : Int32} {a22 : Nat → Int32} {a20_41 : Nat → Int32} {a21_250 : Nat → Int32} {z_254 : Int32} {a22_321 : Nat → Int32} {z_325 : Int32} (e_a22_321 : upd a22 p0.toNatClampNeg (1 : Int32) = a22_321) (e_z_325 : z_325 = z_254 + (1 : Int32)) : f_m12_readsRank_b_320 p0 i11 a22 a20_41 a21_250 z_254 = (f_m12_readsRank_b_327 i11 a20_41 a21_250 a22_321 z_325) := by subst e_a22_321; replace e_z_325 := e_z_325.symm; subst e_z_325; rfl
def f_m12_readsRank_b_318 (p0 : Int32) (i11 : Int32) (a22 : Nat → Int32) (a20_41 : Nat → Int32) (a21_250 : Nat → Int32) (z_254 : Int32) : Int32 × Int32 × (Nat → Int32) × (Nat → Int32) × (Nat → Int32) :=
  (f_m12_readsRank_b_320 p0 i11 a22 a20_41 a21_250 z_254)
theorem f_m12_readsRank_b_318_s0 {p0 : Int32} {i11 : Int32} {a22 : Nat → Int32} {a20_41 : Nat → Int32} {a21_250 : Nat → Int32} {z_254 : Int32}  : f_m12_readsRank_b_318 p0 i11 a22 a20_41 a21_250 z_254 = (f_m12_readsRank_b_320 p0 i11 a22 a20_41 a21_250 z_254) := by rfl
def f_m12_readsRank_b_316 (p0 : Int32) (i11 : Int32) (a22 : Nat → Int32) (a20_41 : Nat → Int32) (a21_250 : Nat → Int32) (z_254 : Int32) : Int32 × Int32 × (Nat → Int32) × (Nat → Int32) × (Nat → Int32) :=
  (f_m12_readsRank_b_318 p0 i11 a22 a20_41 a21_250 z_254)
theorem f_m12_readsRank_b_316_s0 {p0 : Int32} {i11 : Int32} {a22 : Nat → Int32} {a20_41 : Nat → Int32} {a21_250 : Nat → Int32} {z_254 : Int32}  : f_m12_readsRank_b_316 p0 i11 a22 a20_41 a21_250 z_254 = (f_m12_readsRank_b_318 p0 i11 a22 a20_41 a21_250 z_254) := by rfl
def f_m12_readsRank_b_309 (p0 : Int32) (i11 : Int32) (a22 : Nat → Int32) (a20_41 : Nat → Int32) (a21_250 : Nat → Int32) (z_254 : Int32) : Int32 × Int32 × (Nat → Int32) × (Nat → Int32) × (Nat → Int32) :=
  (f_m12_readsRank_b_316 p0 i11 a22 a20_41 a21_250 z_254)
theorem f_m12_readsRank_b_309_s0 {p0 : Int32} {i11 : Int32} {a22 : Nat → Int32} {a20_41 : Nat → Int32} {a21_250 : Nat → Int32} {z_254 : Int32}  : f_m12_readsRank_b_309 p0 i11 a22 a20_41 a21_250 z_254 = (f_m12_readsRank_b_316 p0 i11 a22 a20_41 a21_250 z_254) := by rfl
def f_m12_readsRank_b_302 (p0 : Int32) (i11 : Int32) (a22 : Nat → Int32) (a20_41 : Nat → Int32) (a21_250 : Nat → Int32) (z_254 : Int32) : Int32 × Int32 × (Nat → Int32) × (Nat → Int32) × (Nat → Int32) :=
  (f_m12_readsRank_b_309 p0 i11 a22 a20_41 a21_250 z_254)
theorem f_m12_readsRank_b_302_s0 {p0 : Int32} {i11 : Int32} {a22 : Nat → Int32} {a20_41 : Nat → Int32} {a21_250 : Nat → Int32} {z_254 : Int32}  : f_m12_readsRank_b_302 p0 i11 a22 a20_41 a21_250 z_254 = (f_m12_readsRank_b_309 p0 i11 a22 a20_41 a21_250 z_254) := by rfl
def f_m12_readsRank_b_351 (a22 : Nat → Int32) (a20_41 : Nat → Int32) (a21_250 : Nat → Int32) (z_254 : Int32) (i11_340 : Int32) : Int32 × Int32 × (Nat → Int32) × (Nat → Int32) × (Nat → Int32) :=
  (z_254, i11_340, a20_41, a21_250, a22)
theorem f_m12_readsRank_b_351_r {a22 : Nat → Int32} {a20_41 : Nat → Int32} {a21_250 : Nat → Int32} {z_254 : Int32} {i11_340 : Int32}  : f_m12_readsRank_b_351 a22 a20_41 a21_250 z_254 i11_340 = (z_254, i11_340, a20_41, a21_250, a22) := by rfl
def f_m12_readsRank_b_336 (i11 : Int32) (a22 : Nat → Int32) (a20_41 : Nat → Int32) (a21_250 : Nat → Int32) (z_254 : Int32) : Int32 × Int32 × (Nat → Int32) × (Nat → Int32) × (Nat → Int32) :=
  let i11_340 : Int32 := (F_m12_fails (6 : Int32) z_254 i11)
  (f_m12_readsRank_b_351 a22 a20_41 a21_250 z_254 i11_340)
theorem f_m12_readsRank_b_336_s1 {i11 : Int32} {a22 : Nat → Int32} {a20_41 : Nat → Int32} {a21_250 : Nat → Int32} {z_254 : Int32} {i11_340 : Int32} (e_i11_340 : i11_340 = (F_m12_fails (6 : Int32) z_254 i11)) : f_m12_readsRank_b_336 i11 a22 a20_41 a21_250 z_254 = (f_m12_readsRank_b_351 a22 a20_41 a21_250 z_254 i11_340) := by replace e_i11_340 := e_i11_340.symm; subst e_i11_340; rfl
def f_m12_readsRank_b_329 (i11 : Int32) (a22 : Nat → Int32) (a20_41 : Nat → Int32) (a21_250 : Nat → Int32) (z_254 : Int32) : Int32 × Int32 × (Nat → Int32) × (Nat → Int32) × (Nat → Int32) :=
  (f_m12_readsRank_b_336 i11 a22 a20_41 a21_250 z_254)
theorem f_m12_readsRank_b_329_s1 {i11 : Int32} {a22 : Nat → Int32} {a20_41 : Nat → Int32} {a21_250 : Nat → Int32} {z_254 : Int32}  : f_m12_readsRank_b_329 i11 a22 a20_41 a21_250 z_254 = (f_m12_readsRank_b_336 i11 a22 a20_41 a21_250 z_254) := by rfl
def f_m12_readsRank_b_275 (p0 : Int32) (i11 : Int32) (a22 : Nat → Int32) (a20_41 : Nat → Int32) (a21_250 : Nat → Int32) (z_254 : Int32) (z_269 : Int32) : Int32 × Int32 × (Nat → Int32) × (Nat → Int32) × (Nat → Int32) :=
  if z_269.toInt = 0 then (f_m12_readsRank_b_278 i11 a22 a20_41 a21_250 z_254) else if z_269.toInt = 1 then (f_m12_readsRank_b_302 p0 i11 a22 a20_41 a21_250 z_254) else (f_m12_readsRank_b_329 i11 a22 a20_41 a21_250 z_254)
theorem f_m12_readsRank_b_275_c0 {p0 : Int32} {i11 : Int32} {a22 : Nat → Int32} {a20_41 : Nat → Int32} {a21_250 : Nat → Int32} {z_254 : Int32} {z_269 : Int32}  (hc : z_269.toInt = 0) : f_m12_readsRank_b_275 p0 i11 a22 a20_41 a21_250 z_254 z_269 = (f_m12_readsRank_b_278 i11 a22 a20_41 a21_250 z_254) := by exact if_pos hc
theorem f_m12_readsRank_b_275_c1 {p0 : Int32} {i11 : Int32} {a22 : Nat → Int32} {a20_41 : Nat → Int32} {a21_250 : Nat → Int32} {z_254 : Int32} {z_269 : Int32}  (hc : z_269.toInt = 1) : f_m12_readsRank_b_275 p0 i11 a22 a20_41 a21_250 z_254 z_269 = (f_m12_readsRank_b_302 p0 i11 a22 a20_41 a21_250 z_254) := by exact (if_neg (by omega)).trans (if_pos hc)
theorem f_m12_readsRank_b_275_c2 {p0 : Int32} {i11 : Int32} {a22 : Nat → Int32} {a20_41 : Nat → Int32} {a21_250 : Nat → Int32} {z_254 : Int32} {z_269 : Int32}  (hc : z_269.toInt = 2) : f_m12_readsRank_b_275 p0 i11 a22 a20_41 a21_250 z_254 z_269 = (f_m12_readsRank_b_329 i11 a22 a20_41 a21_250 z_254) := by exact (if_neg (by omega)).trans ((if_neg (by omega)).trans (rfl))
def f_m12_readsRank_b_367 (a22 : Nat → Int32) (a20_41 : Nat → Int32) (a21_250 : Nat → Int32) (z_254 : Int32) (i11_356 : Int32) : Int32 × Int32 × (Nat → Int32) × (Nat → Int32) × (Nat → Int32) :=
  (z_254, i11_356, a20_41, a21_250, a22)
theorem f_m12_readsRank_b_367_r {a22 : Nat → Int32} {a20_41 : Nat → Int32} {a21_250 : Nat → Int32} {z_254 : Int32} {i11_356 : Int32}  : f_m12_readsRank_b_367 a22 a20_41 a21_250 z_254 i11_356 = (z_254, i11_356, a20_41, a21_250, a22) := by rfl
def f_m12_readsRank_b_352 (i11 : Int32) (a22 : Nat → Int32) (a20_41 : Nat → Int32) (a21_250 : Nat → Int32) (z_254 : Int32) : Int32 × Int32 × (Nat → Int32) × (Nat → Int32) × (Nat → Int32) :=
  let i11_356 : Int32 := (F_m12_fails (1 : Int32) z_254 i11)
  (f_m12_readsRank_b_367 a22 a20_41 a21_250 z_254 i11_356)
theorem f_m12_readsRank_b_352_s1 {i11 : Int32} {a22 : Nat → Int32} {a20_41 : Nat → Int32} {a21_250 : Nat → Int32} {z_254 : Int32} {i11_356 : Int32} (e_i11_356 : i11_356 = (F_m12_fails (1 : Int32) z_254 i11)) : f_m12_readsRank_b_352 i11 a22 a20_41 a21_250 z_254 = (f_m12_readsRank_b_367 a22 a20_41 a21_250 z_254 i11_356) := by replace e_i11_356 := e_i11_356.symm; subst e_i11_356; rfl
def f_m12_readsRank_b_263 (p0 : Int32) (i10 : Int32) (i11 : Int32) (a1 : Nat → Int32) (a22 : Nat → Int32) (a20_41 : Nat → Int32) (a21_250 : Nat → Int32) (z_254 : Int32) : Int32 × Int32 × (Nat → Int32) × (Nat → Int32) × (Nat → Int32) :=
  let v_264 : Int32 := (F_m12_here z_254 i10 a1)
  let z_269 : Int32 := v_264 - (48 : Int32)
  let v_270 : Int32 := (F_m12_lies z_269 (0 : Int32) (2 : Int32))
  if v_270.toInt ≠ 0 then (f_m12_readsRank_b_275 p0 i11 a22 a20_41 a21_250 z_254 z_269) else (f_m12_readsRank_b_352 i11 a22 a20_41 a21_250 z_254)
theorem f_m12_readsRank_b_263_s0 {p0 : Int32} {i10 : Int32} {i11 : Int32} {a1 : Nat → Int32} {a22 : Nat → Int32} {a20_41 : Nat → Int32} {a21_250 : Nat → Int32} {z_254 : Int32} {v_264 : Int32} {z_269 : Int32} {v_270 : Int32} (e_v_264 : v_264 = (F_m12_here z_254 i10 a1)) (e_z_269 : z_269 = v_264 - (48 : Int32)) (e_v_270 : v_270 = (F_m12_lies z_269 (0 : Int32) (2 : Int32))) (hc : v_270.toInt ≠ 0) : f_m12_readsRank_b_263 p0 i10 i11 a1 a22 a20_41 a21_250 z_254 = (f_m12_readsRank_b_275 p0 i11 a22 a20_41 a21_250 z_254 z_269) := by replace e_v_264 := e_v_264.symm; subst e_v_264; replace e_z_269 := e_z_269.symm; subst e_z_269; replace e_v_270 := e_v_270.symm; subst e_v_270; exact if_pos hc
theorem f_m12_readsRank_b_263_s1 {p0 : Int32} {i10 : Int32} {i11 : Int32} {a1 : Nat → Int32} {a22 : Nat → Int32} {a20_41 : Nat → Int32} {a21_250 : Nat → Int32} {z_254 : Int32} {v_264 : Int32} {z_269 : Int32} {v_270 : Int32} (e_v_264 : v_264 = (F_m12_here z_254 i10 a1)) (e_z_269 : z_269 = v_264 - (48 : Int32)) (e_v_270 : v_270 = (F_m12_lies z_269 (0 : Int32) (2 : Int32))) (hc : ¬ (v_270.toInt ≠ 0)) : f_m12_readsRank_b_263 p0 i10 i11 a1 a22 a20_41 a21_250 z_254 = (f_m12_readsRank_b_352 i11 a22 a20_41 a21_250 z_254) := by replace e_v_264 := e_v_264.symm; subst e_v_264; replace e_z_269 := e_z_269.symm; subst e_z_269; replace e_v_270 := e_v_270.symm; subst e_v_270; exact if_neg hc
def f_m12_readsRank_b_256 (p0 : Int32) (i10 : Int32) (i11 : Int32) (a1 : Nat → Int32) (a22 : Nat → Int32) (a20_41 : Nat → Int32) (a21_250 : Nat → Int32) (z_254 : Int32) : Int32 × Int32 × (Nat → Int32) × (Nat → Int32) × (Nat → Int32) :=
  (f_m12_readsRank_b_263 p0 i10 i11 a1 a22 a20_41 a21_250 z_254)
theorem f_m12_readsRank_b_256_s1 {p0 : Int32} {i10 : Int32} {i11 : Int32} {a1 : Nat → Int32} {a22 : Nat → Int32} {a20_41 : Nat → Int32} {a21_250 : Nat → Int32} {z_254 : Int32}  : f_m12_readsRank_b_256 p0 i10 i11 a1 a22 a20_41 a21_250 z_254 = (f_m12_readsRank_b_263 p0 i10 i11 a1 a22 a20_41 a21_250 z_254) := by rfl
def f_m12_readsRank_b_249 (p0 : Int32) (i10 : Int32) (i11 : Int32) (a1 : Nat → Int32) (a21 : Nat → Int32) (a22 : Nat → Int32) (a20_41 : Nat → Int32) (z_45 : Int32) : Int32 × Int32 × (Nat → Int32) × (Nat → Int32) × (Nat → Int32) :=
  let a21_250 : Nat → Int32 := upd a21 p0.toNatClampNeg (2 : Int32)
  let z_254 : Int32 := z_45 + (1 : Int32)
  (f_m12_readsRank_b_256 p0 i10 i11 a1 a22 a20_41 a21_250 z_254)
theorem f_m12_readsRank_b_249_s1 {p0 : Int32} {i10 : Int32} {i11 : Int32} {a1 : Nat → Int32} {a21 : Nat → Int32} {a22 : Nat → Int32} {a20_41 : Nat → Int32} {z_45 : Int32} {a21_250 : Nat → Int32} {z_254 : Int32} (e_a21_250 : upd a21 p0.toNatClampNeg (2 : Int32) = a21_250) (e_z_254 : z_254 = z_45 + (1 : Int32)) : f_m12_readsRank_b_249 p0 i10 i11 a1 a21 a22 a20_41 z_45 = (f_m12_readsRank_b_256 p0 i10 i11 a1 a22 a20_41 a21_250 z_254) := by subst e_a21_250; replace e_z_254 := e_z_254.symm; subst e_z_254; rfl
def f_m12_readsRank_b_247 (p0 : Int32) (i10 : Int32) (i11 : Int32) (a1 : Nat → Int32) (a21 : Nat → Int32) (a22 : Nat → Int32) (a20_41 : Nat → Int32) (z_45 : Int32) : Int32 × Int32 × (Nat → Int32) × (Nat → Int32) × (Nat → Int32) :=
  (f_m12_readsRank_b_249 p0 i10 i11 a1 a21 a22 a20_41 z_45)
theorem f_m12_readsRank_b_247_s1 {p0 : Int32} {i10 : Int32} {i11 : Int32} {a1 : Nat → Int32} {a21 : Nat → Int32} {a22 : Nat → Int32} {a20_41 : Nat → Int32} {z_45 : Int32}  : f_m12_readsRank_b_247 p0 i10 i11 a1 a21 a22 a20_41 z_45 = (f_m12_readsRank_b_249 p0 i10 i11 a1 a21 a22 a20_41 z_45) := by rfl
def f_m12_readsRank_b_245 (p0 : Int32) (i10 : Int32) (i11 : Int32) (a1 : Nat → Int32) (a21 : Nat → Int32) (a22 : Nat → Int32) (a20_41 : Nat → Int32) (z_45 : Int32) : Int32 × Int32 × (Nat → Int32) × (Nat → Int32) × (Nat → Int32) :=
  (f_m12_readsRank_b_247 p0 i10 i11 a1 a21 a22 a20_41 z_45)
theorem f_m12_readsRank_b_245_s0 {p0 : Int32} {i10 : Int32} {i11 : Int32} {a1 : Nat → Int32} {a21 : Nat → Int32} {a22 : Nat → Int32} {a20_41 : Nat → Int32} {z_45 : Int32}  : f_m12_readsRank_b_245 p0 i10 i11 a1 a21 a22 a20_41 z_45 = (f_m12_readsRank_b_247 p0 i10 i11 a1 a21 a22 a20_41 z_45) := by rfl
def f_m12_readsRank_b_238 (p0 : Int32) (i10 : Int32) (i11 : Int32) (a1 : Nat → Int32) (a21 : Nat → Int32) (a22 : Nat → Int32) (a20_41 : Nat → Int32) (z_45 : Int32) : Int32 × Int32 × (Nat → Int32) × (Nat → Int32) × (Nat → Int32) :=
  (f_m12_readsRank_b_245 p0 i10 i11 a1 a21 a22 a20_41 z_45)
theorem f_m12_readsRank_b_238_s0 {p0 : Int32} {i10 : Int32} {i11 : Int32} {a1 : Nat → Int32} {a21 : Nat → Int32} {a22 : Nat → Int32} {a20_41 : Nat → Int32} {z_45 : Int32}  : f_m12_readsRank_b_238 p0 i10 i11 a1 a21 a22 a20_41 z_45 = (f_m12_readsRank_b_245 p0 i10 i11 a1 a21 a22 a20_41 z_45) := by rfl
def f_m12_readsRank_b_231 (p0 : Int32) (i10 : Int32) (i11 : Int32) (a1 : Nat → Int32) (a21 : Nat → Int32) (a22 : Nat → Int32) (a20_41 : Nat → Int32) (z_45 : Int32) : Int32 × Int32 × (Nat → Int32) × (Nat → Int32) × (Nat → Int32) :=
  (f_m12_readsRank_b_238 p0 i10 i11 a1 a21 a22 a20_41 z_45)
theorem f_m12_readsRank_b_231_s0 {p0 : Int32} {i10 : Int32} {i11 : Int32} {a1 : Nat → Int32} {a21 : Nat → Int32} {a22 : Nat → Int32} {a20_41 : Nat → Int32} {z_45 : Int32}  : f_m12_readsRank_b_231 p0 i10 i11 a1 a21 a22 a20_41 z_45 = (f_m12_readsRank_b_238 p0 i10 i11 a1 a21 a22 a20_41 z_45) := by rfl
def f_m12_readsRank_b_66 (p0 : Int32) (i10 : Int32) (i11 : Int32) (a1 : Nat → Int32) (a21 : Nat → Int32) (a22 : Nat → Int32) (a20_41 : Nat → Int32) (z_45 : Int32) (z_60 : Int32) : Int32 × Int32 × (Nat → Int32) × (Nat → Int32) × (Nat → Int32) :=
  if z_60.toInt = 0 then (f_m12_readsRank_b_69 i11 a21 a22 a20_41 z_45) else if z_60.toInt = 1 then (f_m12_readsRank_b_93 p0 i10 i11 a1 a21 a22 a20_41 z_45) else (f_m12_readsRank_b_231 p0 i10 i11 a1 a21 a22 a20_41 z_45)
theorem f_m12_readsRank_b_66_c0 {p0 : Int32} {i10 : Int32} {i11 : Int32} {a1 : Nat → Int32} {a21 : Nat → Int32} {a22 : Nat → Int32} {a20_41 : Nat → Int32} {z_45 : Int32} {z_60 : Int32}  (hc : z_60.toInt = 0) : f_m12_readsRank_b_66 p0 i10 i11 a1 a21 a22 a20_41 z_45 z_60 = (f_m12_readsRank_b_69 i11 a21 a22 a20_41 z_45) := by exact if_pos hc
theorem f_m12_readsRank_b_66_c1 {p0 : Int32} {i10 : Int32} {i11 : Int32} {a1 : Nat → Int32} {a21 : Nat → Int32} {a22 : Nat → Int32} {a20_41 : Nat → Int32} {z_45 : Int32} {z_60 : Int32}  (hc : z_60.toInt = 1) : f_m12_readsRank_b_66 p0 i10 i11 a1 a21 a22 a20_41 z_45 z_60 = (f_m12_readsRank_b_93 p0 i10 i11 a1 a21 a22 a20_41 z_45) := by exact (if_neg (by omega)).trans (if_pos hc)
theorem f_m12_readsRank_b_66_c2 {p0 : Int32} {i10 : Int32} {i11 : Int32} {a1 : Nat → Int32} {a21 : Nat → Int32} {a22 : Nat → Int32} {a20_41 : Nat → Int32} {z_45 : Int32} {z_60 : Int32}  (hc : z_60.toInt = 2) : f_m12_readsRank_b_66 p0 i10 i11 a1 a21 a22 a20_41 z_45 z_60 = (f_m12_readsRank_b_231 p0 i10 i11 a1 a21 a22 a20_41 z_45) := by exact (if_neg (by omega)).trans ((if_neg (by omega)).trans (rfl))
def f_m12_readsRank_b_383 (a21 : Nat → Int32) (a22 : Nat → Int32) (a20_41 : Nat → Int32) (z_45 : Int32) (i11_372 : Int32) : Int32 × Int32 × (Nat → Int32) × (Nat → Int32) × (Nat → Int32) :=
  (z_45, i11_372, a20_41, a21, a22)
theorem f_m12_readsRank_b_383_r {a21 : Nat → Int32} {a22 : Nat → Int32} {a20_41 : Nat → Int32} {z_45 : Int32} {i11_372 : Int32}  : f_m12_readsRank_b_383 a21 a22 a20_41 z_45 i11_372 = (z_45, i11_372, a20_41, a21, a22) := by rfl
def f_m12_readsRank_b_368 (i11 : Int32) (a21 : Nat → Int32) (a22 : Nat → Int32) (a20_41 : Nat → Int32) (z_45 : Int32) : Int32 × Int32 × (Nat → Int32) × (Nat → Int32) × (Nat → Int32) :=
  let i11_372 : Int32 := (F_m12_fails (1 : Int32) z_45 i11)
  (f_m12_readsRank_b_383 a21 a22 a20_41 z_45 i11_372)
theorem f_m12_readsRank_b_368_s1 {i11 : Int32} {a21 : Nat → Int32} {a22 : Nat → Int32} {a20_41 : Nat → Int32} {z_45 : Int32} {i11_372 : Int32} (e_i11_372 : i11_372 = (F_m12_fails (1 : Int32) z_45 i11)) : f_m12_readsRank_b_368 i11 a21 a22 a20_41 z_45 = (f_m12_readsRank_b_383 a21 a22 a20_41 z_45 i11_372) := by replace e_i11_372 := e_i11_372.symm; subst e_i11_372; rfl
def f_m12_readsRank_b_54 (p0 : Int32) (i10 : Int32) (i11 : Int32) (a1 : Nat → Int32) (a21 : Nat → Int32) (a22 : Nat → Int32) (a20_41 : Nat → Int32) (z_45 : Int32) : Int32 × Int32 × (Nat → Int32) × (Nat → Int32) × (Nat → Int32) :=
  let v_55 : Int32 := (F_m12_here z_45 i10 a1)
  let z_60 : Int32 := v_55 - (48 : Int32)
  let v_61 : Int32 := (F_m12_lies z_60 (0 : Int32) (2 : Int32))
  if v_61.toInt ≠ 0 then (f_m12_readsRank_b_66 p0 i10 i11 a1 a21 a22 a20_41 z_45 z_60) else (f_m12_readsRank_b_368 i11 a21 a22 a20_41 z_45)
theorem f_m12_readsRank_b_54_s0 {p0 : Int32} {i10 : Int32} {i11 : Int32} {a1 : Nat → Int32} {a21 : Nat → Int32} {a22 : Nat → Int32} {a20_41 : Nat → Int32} {z_45 : Int32} {v_55 : Int32} {z_60 : Int32} {v_61 : Int32} (e_v_55 : v_55 = (F_m12_here z_45 i10 a1)) (e_z_60 : z_60 = v_55 - (48 : Int32)) (e_v_61 : v_61 = (F_m12_lies z_60 (0 : Int32) (2 : Int32))) (hc : v_61.toInt ≠ 0) : f_m12_readsRank_b_54 p0 i10 i11 a1 a21 a22 a20_41 z_45 = (f_m12_readsRank_b_66 p0 i10 i11 a1 a21 a22 a20_41 z_45 z_60) := by replace e_v_55 := e_v_55.symm; subst e_v_55; replace e_z_60 := e_z_60.symm; subst e_z_60; replace e_v_61 := e_v_61.symm; subst e_v_61; exact if_pos hc
theorem f_m12_readsRank_b_54_s1 {p0 : Int32} {i10 : Int32} {i11 : Int32} {a1 : Nat → Int32} {a21 : Nat → Int32} {a22 : Nat → Int32} {a20_41 : Nat → Int32} {z_45 : Int32} {v_55 : Int32} {z_60 : Int32} {v_61 : Int32} (e_v_55 : v_55 = (F_m12_here z_45 i10 a1)) (e_z_60 : z_60 = v_55 - (48 : Int32)) (e_v_61 : v_61 = (F_m12_lies z_60 (0 : Int32) (2 : Int32))) (hc : ¬ (v_61.toInt ≠ 0)) : f_m12_readsRank_b_54 p0 i10 i11 a1 a21 a22 a20_41 z_45 = (f_m12_readsRank_b_368 i11 a21 a22 a20_41 z_45) := by replace e_v_55 := e_v_55.symm; subst e_v_55; replace e_z_60 := e_z_60.symm; subst e_z_60; replace e_v_61 := e_v_61.symm; subst e_v_61; exact if_neg hc
def f_m12_readsRank_b_47 (p0 : Int32) (i10 : Int32) (i11 : Int32) (a1 : Nat → Int32) (a21 : Nat → Int32) (a22 : Nat → Int32) (a20_41 : Nat → Int32) (z_45 : Int32) : Int32 × Int32 × (Nat → Int32) × (Nat → Int32) × (Nat → Int32) :=
  (f_m12_readsRank_b_54 p0 i10 i11 a1 a21 a22 a20_41 z_45)
theorem f_m12_readsRank_b_47_s1 {p0 : Int32} {i10 : Int32} {i11 : Int32} {a1 : Nat → Int32} {a21 : Nat → Int32} {a22 : Nat → Int32} {a20_41 : Nat → Int32} {z_45 : Int32}  : f_m12_readsRank_b_47 p0 i10 i11 a1 a21 a22 a20_41 z_45 = (f_m12_readsRank_b_54 p0 i10 i11 a1 a21 a22 a20_41 z_45) := by rfl
def f_m12_readsRank_b_40 (p0 : Int32) (i9 : Int32) (i10 : Int32) (i11 : Int32) (a1 : Nat → Int32) (a20 : Nat → Int32) (a21 : Nat → Int32) (a22 : Nat → Int32) : Int32 × Int32 × (Nat → Int32) × (Nat → Int32) × (Nat → Int32) :=
  let a20_41 : Nat → Int32 := upd a20 p0.toNatClampNeg (0 : Int32)
  let z_45 : Int32 := i9 + (1 : Int32)
  (f_m12_readsRank_b_47 p0 i10 i11 a1 a21 a22 a20_41 z_45)
theorem f_m12_readsRank_b_40_s1 {p0 : Int32} {i9 : Int32} {i10 : Int32} {i11 : Int32} {a1 : Nat → Int32} {a20 : Nat → Int32} {a21 : Nat → Int32} {a22 : Nat → Int32} {a20_41 : Nat → Int32} {z_45 : Int32} (e_a20_41 : upd a20 p0.toNatClampNeg (0 : Int32) = a20_41) (e_z_45 : z_45 = i9 + (1 : Int32)) : f_m12_readsRank_b_40 p0 i9 i10 i11 a1 a20 a21 a22 = (f_m12_readsRank_b_47 p0 i10 i11 a1 a21 a22 a20_41 z_45) := by subst e_a20_41; replace e_z_45 := e_z_45.symm; subst e_z_45; rfl
def f_m12_readsRank_b_38 (p0 : Int32) (i9 : Int32) (i10 : Int32) (i11 : Int32) (a1 : Nat → Int32) (a20 : Nat → Int32) (a21 : Nat → Int32) (a22 : Nat → Int32) : Int32 × Int32 × (Nat → Int32) × (Nat → Int32) × (Nat → Int32) :=
  (f_m12_readsRank_b_40 p0 i9 i10 i11 a1 a20 a21 a22)
theorem f_m12_readsRank_b_38_s1 {p0 : Int32} {i9 : Int32} {i10 : Int32} {i11 : Int32} {a1 : Nat → Int32} {a20 : Nat → Int32} {a21 : Nat → Int32} {a22 : Nat → Int32}  : f_m12_readsRank_b_38 p0 i9 i10 i11 a1 a20 a21 a22 = (f_m12_readsRank_b_40 p0 i9 i10 i11 a1 a20 a21 a22) := by rfl
def f_m12_readsRank_b_31 (p0 : Int32) (i9 : Int32) (i10 : Int32) (i11 : Int32) (a1 : Nat → Int32) (a20 : Nat → Int32) (a21 : Nat → Int32) (a22 : Nat → Int32) : Int32 × Int32 × (Nat → Int32) × (Nat → Int32) × (Nat → Int32) :=
  (f_m12_readsRank_b_38 p0 i9 i10 i11 a1 a20 a21 a22)
theorem f_m12_readsRank_b_31_s0 {p0 : Int32} {i9 : Int32} {i10 : Int32} {i11 : Int32} {a1 : Nat → Int32} {a20 : Nat → Int32} {a21 : Nat → Int32} {a22 : Nat → Int32}  : f_m12_readsRank_b_31 p0 i9 i10 i11 a1 a20 a21 a22 = (f_m12_readsRank_b_38 p0 i9 i10 i11 a1 a20 a21 a22) := by rfl
def f_m12_readsRank_b_24 (p0 : Int32) (i9 : Int32) (i10 : Int32) (i11 : Int32) (a1 : Nat → Int32) (a20 : Nat → Int32) (a21 : Nat → Int32) (a22 : Nat → Int32) : Int32 × Int32 × (Nat → Int32) × (Nat → Int32) × (Nat → Int32) :=
  (f_m12_readsRank_b_31 p0 i9 i10 i11 a1 a20 a21 a22)
theorem f_m12_readsRank_b_24_s0 {p0 : Int32} {i9 : Int32} {i10 : Int32} {i11 : Int32} {a1 : Nat → Int32} {a20 : Nat → Int32} {a21 : Nat → Int32} {a22 : Nat → Int32}  : f_m12_readsRank_b_24 p0 i9 i10 i11 a1 a20 a21 a22 = (f_m12_readsRank_b_31 p0 i9 i10 i11 a1 a20 a21 a22) := by rfl
def f_m12_readsRank_b_499 (a22 : Nat → Int32) (a20_402 : Nat → Int32) (a21_449 : Nat → Int32) (z_453 : Int32) (i11_488 : Int32) : Int32 × Int32 × (Nat → Int32) × (Nat → Int32) × (Nat → Int32) :=
  (z_453, i11_488, a20_402, a21_449, a22)
theorem f_m12_readsRank_b_499_r {a22 : Nat → Int32} {a20_402 : Nat → Int32} {a21_449 : Nat → Int32} {z_453 : Int32} {i11_488 : Int32}  : f_m12_readsRank_b_499 a22 a20_402 a21_449 z_453 i11_488 = (z_453, i11_488, a20_402, a21_449, a22) := by rfl
def f_m12_readsRank_b_484 (i11 : Int32) (a22 : Nat → Int32) (a20_402 : Nat → Int32) (a21_449 : Nat → Int32) (z_453 : Int32) : Int32 × Int32 × (Nat → Int32) × (Nat → Int32) × (Nat → Int32) :=
  let i11_488 : Int32 := (F_m12_fails (6 : Int32) z_453 i11)
  (f_m12_readsRank_b_499 a22 a20_402 a21_449 z_453 i11_488)
theorem f_m12_readsRank_b_484_s1 {i11 : Int32} {a22 : Nat → Int32} {a20_402 : Nat → Int32} {a21_449 : Nat → Int32} {z_453 : Int32} {i11_488 : Int32} (e_i11_488 : i11_488 = (F_m12_fails (6 : Int32) z_453 i11)) : f_m12_readsRank_b_484 i11 a22 a20_402 a21_449 z_453 = (f_m12_readsRank_b_499 a22 a20_402 a21_449 z_453 i11_488) := by replace e_i11_488 := e_i11_488.symm; subst e_i11_488; rfl
def f_m12_readsRank_b_477 (i11 : Int32) (a22 : Nat → Int32) (a20_402 : Nat → Int32) (a21_449 : Nat → Int32) (z_453 : Int32) : Int32 × Int32 × (Nat → Int32) × (Nat → Int32) × (Nat → Int32) :=
  (f_m12_readsRank_b_484 i11 a22 a20_402 a21_449 z_453)
theorem f_m12_readsRank_b_477_s1 {i11 : Int32} {a22 : Nat → Int32} {a20_402 : Nat → Int32} {a21_449 : Nat → Int32} {z_453 : Int32}  : f_m12_readsRank_b_477 i11 a22 a20_402 a21_449 z_453 = (f_m12_readsRank_b_484 i11 a22 a20_402 a21_449 z_453) := by rfl
def f_m12_readsRank_b_523 (a22 : Nat → Int32) (a20_402 : Nat → Int32) (a21_449 : Nat → Int32) (z_453 : Int32) (i11_512 : Int32) : Int32 × Int32 × (Nat → Int32) × (Nat → Int32) × (Nat → Int32) :=
  (z_453, i11_512, a20_402, a21_449, a22)
theorem f_m12_readsRank_b_523_r {a22 : Nat → Int32} {a20_402 : Nat → Int32} {a21_449 : Nat → Int32} {z_453 : Int32} {i11_512 : Int32}  : f_m12_readsRank_b_523 a22 a20_402 a21_449 z_453 i11_512 = (z_453, i11_512, a20_402, a21_449, a22) := by rfl
def f_m12_readsRank_b_508 (i11 : Int32) (a22 : Nat → Int32) (a20_402 : Nat → Int32) (a21_449 : Nat → Int32) (z_453 : Int32) : Int32 × Int32 × (Nat → Int32) × (Nat → Int32) × (Nat → Int32) :=
  let i11_512 : Int32 := (F_m12_fails (6 : Int32) z_453 i11)
  (f_m12_readsRank_b_523 a22 a20_402 a21_449 z_453 i11_512)
theorem f_m12_readsRank_b_508_s1 {i11 : Int32} {a22 : Nat → Int32} {a20_402 : Nat → Int32} {a21_449 : Nat → Int32} {z_453 : Int32} {i11_512 : Int32} (e_i11_512 : i11_512 = (F_m12_fails (6 : Int32) z_453 i11)) : f_m12_readsRank_b_508 i11 a22 a20_402 a21_449 z_453 = (f_m12_readsRank_b_523 a22 a20_402 a21_449 z_453 i11_512) := by replace e_i11_512 := e_i11_512.symm; subst e_i11_512; rfl
def f_m12_readsRank_b_501 (i11 : Int32) (a22 : Nat → Int32) (a20_402 : Nat → Int32) (a21_449 : Nat → Int32) (z_453 : Int32) : Int32 × Int32 × (Nat → Int32) × (Nat → Int32) × (Nat → Int32) :=
  (f_m12_readsRank_b_508 i11 a22 a20_402 a21_449 z_453)
theorem f_m12_readsRank_b_501_s1 {i11 : Int32} {a22 : Nat → Int32} {a20_402 : Nat → Int32} {a21_449 : Nat → Int32} {z_453 : Int32}  : f_m12_readsRank_b_501 i11 a22 a20_402 a21_449 z_453 = (f_m12_readsRank_b_508 i11 a22 a20_402 a21_449 z_453) := by rfl
def f_m12_readsRank_b_550 (i11 : Int32) (a20_402 : Nat → Int32) (a21_449 : Nat → Int32) (a22_544 : Nat → Int32) (z_548 : Int32) : Int32 × Int32 × (Nat → Int32) × (Nat → Int32) × (Nat → Int32) :=
  (z_548, i11, a20_402, a21_449, a22_544)
theorem f_m12_readsRank_b_550_r {i11 : Int32} {a20_402 : Nat → Int32} {a21_449 : Nat → Int32} {a22_544 : Nat → Int32} {z_548 : Int32}  : f_m12_readsRank_b_550 i11 a20_402 a21_449 a22_544 z_548 = (z_548, i11, a20_402, a21_449, a22_544) := by rfl
def f_m12_readsRank_b_543 (p0 : Int32) (i11 : Int32) (a22 : Nat → Int32) (a20_402 : Nat → Int32) (a21_449 : Nat → Int32) (z_453 : Int32) : Int32 × Int32 × (Nat → Int32) × (Nat → Int32) × (Nat → Int32) :=
  let a22_544 : Nat → Int32 := upd a22 p0.toNatClampNeg (2 : Int32)
  let z_548 : Int32 := z_453 + (1 : Int32)
  (f_m12_readsRank_b_550 i11 a20_402 a21_449 a22_544 z_548)
theorem f_m12_readsRank_b_543_s0 {p0 : Int32} {i11 : Int32} {a22 : Nat → Int32} {a20_402 : Nat → Int32} {a21_449 : Nat → Int32} {z_453 : Int32} {a22_544 : Nat → Int32} {z_548 : Int32} (e_a22_544 : upd a22 p0.toNatClampNeg (2 : Int32) = a22_544) (e_z_548 : z_548 = z_453 + (1 : Int32)) : f_m12_readsRank_b_543 p0 i11 a22 a20_402 a21_449 z_453 = (f_m12_readsRank_b_550 i11 a20_402 a21_449 a22_544 z_548) := by subst e_a22_544; replace e_z_548 := e_z_548.symm; subst e_z_548; rfl
def f_m12_readsRank_b_541 (p0 : Int32) (i11 : Int32) (a22 : Nat → Int32) (a20_402 : Nat → Int32) (a21_449 : Nat → Int32) (z_453 : Int32) : Int32 × Int32 × (Nat → Int32) × (Nat → Int32) × (Nat → Int32) :=
  (f_m12_readsRank_b_543 p0 i11 a22 a20_402 a21_449 z_453)
theorem f_m12_readsRank_b_541_s0 {p0 : Int32} {i11 : Int32} {a22 : Nat → Int32} {a20_402 : Nat → Int32} {a21_449 : Nat → Int32} {z_453 : Int32}  : f_m12_readsRank_b_541 p0 i11 a22 a20_402 a21_449 z_453 = (f_m12_readsRank_b_543 p0 i11 a22 a20_402 a21_449 z_453) := by rfl
def f_m12_readsRank_b_539 (p0 : Int32) (i11 : Int32) (a22 : Nat → Int32) (a20_402 : Nat → Int32) (a21_449 : Nat → Int32) (z_453 : Int32) : Int32 × Int32 × (Nat → Int32) × (Nat → Int32) × (Nat → Int32) :=
  (f_m12_readsRank_b_541 p0 i11 a22 a20_402 a21_449 z_453)
theorem f_m12_readsRank_b_539_s0 {p0 : Int32} {i11 : Int32} {a22 : Nat → Int32} {a20_402 : Nat → Int32} {a21_449 : Nat → Int32} {z_453 : Int32}  : f_m12_readsRank_b_539 p0 i11 a22 a20_402 a21_449 z_453 = (f_m12_readsRank_b_541 p0 i11 a22 a20_402 a21_449 z_453) := by rfl
def f_m12_readsRank_b_532 (p0 : Int32) (i11 : Int32) (a22 : Nat → Int32) (a20_402 : Nat → Int32) (a21_449 : Nat → Int32) (z_453 : Int32) : Int32 × Int32 × (Nat → Int32) × (Nat → Int32) × (Nat → Int32) :=
  (f_m12_readsRank_b_539 p0 i11 a22 a20_402 a21_449 z_453)
theorem f_m12_readsRank_b_532_s0 {p0 : Int32} {i11 : Int32} {a22 : Nat → Int32} {a20_402 : Nat → Int32} {a21_449 : Nat → Int32} {z_453 : Int32}  : f_m12_readsRank_b_532 p0 i11 a22 a20_402 a21_449 z_453 = (f_m12_readsRank_b_539 p0 i11 a22 a20_402 a21_449 z_453) := by rfl
def f_m12_readsRank_b_525 (p0 : Int32) (i11 : Int32) (a22 : Nat → Int32) (a20_402 : Nat → Int32) (a21_449 : Nat → Int32) (z_453 : Int32) : Int32 × Int32 × (Nat → Int32) × (Nat → Int32) × (Nat → Int32) :=
  (f_m12_readsRank_b_532 p0 i11 a22 a20_402 a21_449 z_453)
theorem f_m12_readsRank_b_525_s0 {p0 : Int32} {i11 : Int32} {a22 : Nat → Int32} {a20_402 : Nat → Int32} {a21_449 : Nat → Int32} {z_453 : Int32}  : f_m12_readsRank_b_525 p0 i11 a22 a20_402 a21_449 z_453 = (f_m12_readsRank_b_532 p0 i11 a22 a20_402 a21_449 z_453) := by rfl
def f_m12_readsRank_b_474 (p0 : Int32) (i11 : Int32) (a22 : Nat → Int32) (a20_402 : Nat → Int32) (a21_449 : Nat → Int32) (z_453 : Int32) (z_468 : Int32) : Int32 × Int32 × (Nat → Int32) × (Nat → Int32) × (Nat → Int32) :=
  if z_468.toInt = 0 then (f_m12_readsRank_b_477 i11 a22 a20_402 a21_449 z_453) else if z_468.toInt = 1 then (f_m12_readsRank_b_501 i11 a22 a20_402 a21_449 z_453) else (f_m12_readsRank_b_525 p0 i11 a22 a20_402 a21_449 z_453)
theorem f_m12_readsRank_b_474_c0 {p0 : Int32} {i11 : Int32} {a22 : Nat → Int32} {a20_402 : Nat → Int32} {a21_449 : Nat → Int32} {z_453 : Int32} {z_468 : Int32}  (hc : z_468.toInt = 0) : f_m12_readsRank_b_474 p0 i11 a22 a20_402 a21_449 z_453 z_468 = (f_m12_readsRank_b_477 i11 a22 a20_402 a21_449 z_453) := by exact if_pos hc
theorem f_m12_readsRank_b_474_c1 {p0 : Int32} {i11 : Int32} {a22 : Nat → Int32} {a20_402 : Nat → Int32} {a21_449 : Nat → Int32} {z_453 : Int32} {z_468 : Int32}  (hc : z_468.toInt = 1) : f_m12_readsRank_b_474 p0 i11 a22 a20_402 a21_449 z_453 z_468 = (f_m12_readsRank_b_501 i11 a22 a20_402 a21_449 z_453) := by exact (if_neg (by omega)).trans (if_pos hc)
theorem f_m12_readsRank_b_474_c2 {p0 : Int32} {i11 : Int32} {a22 : Nat → Int32} {a20_402 : Nat → Int32} {a21_449 : Nat → Int32} {z_453 : Int32} {z_468 : Int32}  (hc : z_468.toInt = 2) : f_m12_readsRank_b_474 p0 i11 a22 a20_402 a21_449 z_453 z_468 = (f_m12_readsRank_b_525 p0 i11 a22 a20_402 a21_449 z_453) := by exact (if_neg (by omega)).trans ((if_neg (by omega)).trans (rfl))
def f_m12_readsRank_b_566 (a22 : Nat → Int32) (a20_402 : Nat → Int32) (a21_449 : Nat → Int32) (z_453 : Int32) (i11_555 : Int32) : Int32 × Int32 × (Nat → Int32) × (Nat → Int32) × (Nat → Int32) :=
  (z_453, i11_555, a20_402, a21_449, a22)
theorem f_m12_readsRank_b_566_r {a22 : Nat → Int32} {a20_402 : Nat → Int32} {a21_449 : Nat → Int32} {z_453 : Int32} {i11_555 : Int32}  : f_m12_readsRank_b_566 a22 a20_402 a21_449 z_453 i11_555 = (z_453, i11_555, a20_402, a21_449, a22) := by rfl
def f_m12_readsRank_b_551 (i11 : Int32) (a22 : Nat → Int32) (a20_402 : Nat → Int32) (a21_449 : Nat → Int32) (z_453 : Int32) : Int32 × Int32 × (Nat → Int32) × (Nat → Int32) × (Nat → Int32) :=
  let i11_555 : Int32 := (F_m12_fails (1 : Int32) z_453 i11)
  (f_m12_readsRank_b_566 a22 a20_402 a21_449 z_453 i11_555)
theorem f_m12_readsRank_b_551_s1 {i11 : Int32} {a22 : Nat → Int32} {a20_402 : Nat → Int32} {a21_449 : Nat → Int32} {z_453 : Int32} {i11_555 : Int32} (e_i11_555 : i11_555 = (F_m12_fails (1 : Int32) z_453 i11)) : f_m12_readsRank_b_551 i11 a22 a20_402 a21_449 z_453 = (f_m12_readsRank_b_566 a22 a20_402 a21_449 z_453 i11_555) := by replace e_i11_555 := e_i11_555.symm; subst e_i11_555; rfl
def f_m12_readsRank_b_462 (p0 : Int32) (i10 : Int32) (i11 : Int32) (a1 : Nat → Int32) (a22 : Nat → Int32) (a20_402 : Nat → Int32) (a21_449 : Nat → Int32) (z_453 : Int32) : Int32 × Int32 × (Nat → Int32) × (Nat → Int32) × (Nat → Int32) :=
  let v_463 : Int32 := (F_m12_here z_453 i10 a1)
  let z_468 : Int32 := v_463 - (48 : Int32)
  let v_469 : Int32 := (F_m12_lies z_468 (0 : Int32) (2 : Int32))
  if v_469.toInt ≠ 0 then (f_m12_readsRank_b_474 p0 i11 a22 a20_402 a21_449 z_453 z_468) else (f_m12_readsRank_b_551 i11 a22 a20_402 a21_449 z_453)
theorem f_m12_readsRank_b_462_s0 {p0 : Int32} {i10 : Int32} {i11 : Int32} {a1 : Nat → Int32} {a22 : Nat → Int32} {a20_402 : Nat → Int32} {a21_449 : Nat → Int32} {z_453 : Int32} {v_463 : Int32} {z_468 : Int32} {v_469 : Int32} (e_v_463 : v_463 = (F_m12_here z_453 i10 a1)) (e_z_468 : z_468 = v_463 - (48 : Int32)) (e_v_469 : v_469 = (F_m12_lies z_468 (0 : Int32) (2 : Int32))) (hc : v_469.toInt ≠ 0) : f_m12_readsRank_b_462 p0 i10 i11 a1 a22 a20_402 a21_449 z_453 = (f_m12_readsRank_b_474 p0 i11 a22 a20_402 a21_449 z_453 z_468) := by replace e_v_463 := e_v_463.symm; subst e_v_463; replace e_z_468 := e_z_468.symm; subst e_z_468; replace e_v_469 := e_v_469.symm; subst e_v_469; exact if_pos hc
theorem f_m12_readsRank_b_462_s1 {p0 : Int32} {i10 : Int32} {i11 : Int32} {a1 : Nat → Int32} {a22 : Nat → Int32} {a20_402 : Nat → Int32} {a21_449 : Nat → Int32} {z_453 : Int32} {v_463 : Int32} {z_468 : Int32} {v_469 : Int32} (e_v_463 : v_463 = (F_m12_here z_453 i10 a1)) (e_z_468 : z_468 = v_463 - (48 : Int32)) (e_v_469 : v_469 = (F_m12_lies z_468 (0 : Int32) (2 : Int32))) (hc : ¬ (v_469.toInt ≠ 0)) : f_m12_readsRank_b_462 p0 i10 i11 a1 a22 a20_402 a21_449 z_453 = (f_m12_readsRank_b_551 i11 a22 a20_402 a21_449 z_453) := by replace e_v_463 := e_v_463.symm; subst e_v_463; replace e_z_468 := e_z_468.symm; subst e_z_468; replace e_v_469 := e_v_469.symm; subst e_v_469; exact if_neg hc
def f_m12_readsRank_b_455 (p0 : Int32) (i10 : Int32) (i11 : Int32) (a1 : Nat → Int32) (a22 : Nat → Int32) (a20_402 : Nat → Int32) (a21_449 : Nat → Int32) (z_453 : Int32) : Int32 × Int32 × (Nat → Int32) × (Nat → Int32) × (Nat → Int32) :=
  (f_m12_readsRank_b_462 p0 i10 i11 a1 a22 a20_402 a21_449 z_453)
theorem f_m12_readsRank_b_455_s1 {p0 : Int32} {i10 : Int32} {i11 : Int32} {a1 : Nat → Int32} {a22 : Nat → Int32} {a20_402 : Nat → Int32} {a21_449 : Nat → Int32} {z_453 : Int32}  : f_m12_readsRank_b_455 p0 i10 i11 a1 a22 a20_402 a21_449 z_453 = (f_m12_readsRank_b_462 p0 i10 i11 a1 a22 a20_402 a21_449 z_453) := by rfl
def f_m12_readsRank_b_448 (p0 : Int32) (i10 : Int32) (i11 : Int32) (a1 : Nat → Int32) (a21 : Nat → Int32) (a22 : Nat → Int32) (a20_402 : Nat → Int32) (z_406 : Int32) : Int32 × Int32 × (Nat → Int32) × (Nat → Int32) × (Nat → Int32) :=
  let a21_449 : Nat → Int32 := upd a21 p0.toNatClampNeg (0 : Int32)
  let z_453 : Int32 := z_406 + (1 : Int32)
  (f_m12_readsRank_b_455 p0 i10 i11 a1 a22 a20_402 a21_449 z_453)
theorem f_m12_readsRank_b_448_s1 {p0 : Int32} {i10 : Int32} {i11 : Int32} {a1 : Nat → Int32} {a21 : Nat → Int32} {a22 : Nat → Int32} {a20_402 : Nat → Int32} {z_406 : Int32} {a21_449 : Nat → Int32} {z_453 : Int32} (e_a21_449 : upd a21 p0.toNatClampNeg (0 : Int32) = a21_449) (e_z_453 : z_453 = z_406 + (1 : Int32)) : f_m12_readsRank_b_448 p0 i10 i11 a1 a21 a22 a20_402 z_406 = (f_m12_readsRank_b_455 p0 i10 i11 a1 a22 a20_402 a21_449 z_453) := by subst e_a21_449; replace e_z_453 := e_z_453.symm; subst e_z_453; rfl
def f_m12_readsRank_b_446 (p0 : Int32) (i10 : Int32) (i11 : Int32) (a1 : Nat → Int32) (a21 : Nat → Int32) (a22 : Nat → Int32) (a20_402 : Nat → Int32) (z_406 : Int32) : Int32 × Int32 × (Nat → Int32) × (Nat → Int32) × (Nat → Int32) :=
  (f_m12_readsRank_b_448 p0 i10 i11 a1 a21 a22 a20_402 z_406)
theorem f_m12_readsRank_b_446_s1 {p0 : Int32} {i10 : Int32} {i11 : Int32} {a1 : Nat → Int32} {a21 : Nat → Int32} {a22 : Nat → Int32} {a20_402 : Nat → Int32} {z_406 : Int32}  : f_m12_readsRank_b_446 p0 i10 i11 a1 a21 a22 a20_402 z_406 = (f_m12_readsRank_b_448 p0 i10 i11 a1 a21 a22 a20_402 z_406) := by rfl
def f_m12_readsRank_b_444 (p0 : Int32) (i10 : Int32) (i11 : Int32) (a1 : Nat → Int32) (a21 : Nat → Int32) (a22 : Nat → Int32) (a20_402 : Nat → Int32) (z_406 : Int32) : Int32 × Int32 × (Nat → Int32) × (Nat → Int32) × (Nat → Int32) :=
  (f_m12_readsRank_b_446 p0 i10 i11 a1 a21 a22 a20_402 z_406)
theorem f_m12_readsRank_b_444_s0 {p0 : Int32} {i10 : Int32} {i11 : Int32} {a1 : Nat → Int32} {a21 : Nat → Int32} {a22 : Nat → Int32} {a20_402 : Nat → Int32} {z_406 : Int32}  : f_m12_readsRank_b_444 p0 i10 i11 a1 a21 a22 a20_402 z_406 = (f_m12_readsRank_b_446 p0 i10 i11 a1 a21 a22 a20_402 z_406) := by rfl
def f_m12_readsRank_b_437 (p0 : Int32) (i10 : Int32) (i11 : Int32) (a1 : Nat → Int32) (a21 : Nat → Int32) (a22 : Nat → Int32) (a20_402 : Nat → Int32) (z_406 : Int32) : Int32 × Int32 × (Nat → Int32) × (Nat → Int32) × (Nat → Int32) :=
  (f_m12_readsRank_b_444 p0 i10 i11 a1 a21 a22 a20_402 z_406)
theorem f_m12_readsRank_b_437_s0 {p0 : Int32} {i10 : Int32} {i11 : Int32} {a1 : Nat → Int32} {a21 : Nat → Int32} {a22 : Nat → Int32} {a20_402 : Nat → Int32} {z_406 : Int32}  : f_m12_readsRank_b_437 p0 i10 i11 a1 a21 a22 a20_402 z_406 = (f_m12_readsRank_b_444 p0 i10 i11 a1 a21 a22 a20_402 z_406) := by rfl
def f_m12_readsRank_b_430 (p0 : Int32) (i10 : Int32) (i11 : Int32) (a1 : Nat → Int32) (a21 : Nat → Int32) (a22 : Nat → Int32) (a20_402 : Nat → Int32) (z_406 : Int32) : Int32 × Int32 × (Nat → Int32) × (Nat → Int32) × (Nat → Int32) :=
  (f_m12_readsRank_b_437 p0 i10 i11 a1 a21 a22 a20_402 z_406)
theorem f_m12_readsRank_b_430_s0 {p0 : Int32} {i10 : Int32} {i11 : Int32} {a1 : Nat → Int32} {a21 : Nat → Int32} {a22 : Nat → Int32} {a20_402 : Nat → Int32} {z_406 : Int32}  : f_m12_readsRank_b_430 p0 i10 i11 a1 a21 a22 a20_402 z_406 = (f_m12_readsRank_b_437 p0 i10 i11 a1 a21 a22 a20_402 z_406) := by rfl
def f_m12_readsRank_b_590 (a21 : Nat → Int32) (a22 : Nat → Int32) (a20_402 : Nat → Int32) (z_406 : Int32) (i11_579 : Int32) : Int32 × Int32 × (Nat → Int32) × (Nat → Int32) × (Nat → Int32) :=
  (z_406, i11_579, a20_402, a21, a22)
theorem f_m12_readsRank_b_590_r {a21 : Nat → Int32} {a22 : Nat → Int32} {a20_402 : Nat → Int32} {z_406 : Int32} {i11_579 : Int32}  : f_m12_readsRank_b_590 a21 a22 a20_402 z_406 i11_579 = (z_406, i11_579, a20_402, a21, a22) := by rfl
def f_m12_readsRank_b_575 (i11 : Int32) (a21 : Nat → Int32) (a22 : Nat → Int32) (a20_402 : Nat → Int32) (z_406 : Int32) : Int32 × Int32 × (Nat → Int32) × (Nat → Int32) × (Nat → Int32) :=
  let i11_579 : Int32 := (F_m12_fails (6 : Int32) z_406 i11)
  (f_m12_readsRank_b_590 a21 a22 a20_402 z_406 i11_579)
theorem f_m12_readsRank_b_575_s1 {i11 : Int32} {a21 : Nat → Int32} {a22 : Nat → Int32} {a20_402 : Nat → Int32} {z_406 : Int32} {i11_579 : Int32} (e_i11_579 : i11_579 = (F_m12_fails (6 : Int32) z_406 i11)) : f_m12_readsRank_b_575 i11 a21 a22 a20_402 z_406 = (f_m12_readsRank_b_590 a21 a22 a20_402 z_406 i11_579) := by replace e_i11_579 := e_i11_579.symm; subst e_i11_579; rfl
def f_m12_readsRank_b_568 (i11 : Int32) (a21 : Nat → Int32) (a22 : Nat → Int32) (a20_402 : Nat → Int32) (z_406 : Int32) : Int32 × Int32 × (Nat → Int32) × (Nat → Int32) × (Nat → Int32) :=
  (f_m12_readsRank_b_575 i11 a21 a22 a20_402 z_406)
theorem f_m12_readsRank_b_568_s1 {i11 : Int32} {a21 : Nat → Int32} {a22 : Nat → Int32} {a20_402 : Nat → Int32} {z_406 : Int32}  : f_m12_readsRank_b_568 i11 a21 a22 a20_402 z_406 = (f_m12_readsRank_b_575 i11 a21 a22 a20_402 z_406) := by rfl
def f_m12_readsRank_b_664 (i11 : Int32) (a20_402 : Nat → Int32) (a21_611 : Nat → Int32) (a22_658 : Nat → Int32) (z_662 : Int32) : Int32 × Int32 × (Nat → Int32) × (Nat → Int32) × (Nat → Int32) :=
  (z_662, i11, a20_402, a21_611, a22_658)
theorem f_m12_readsRank_b_664_r {i11 : Int32} {a20_402 : Nat → Int32} {a21_611 : Nat → Int32} {a22_658 : Nat → Int32} {z_662 : Int32}  : f_m12_readsRank_b_664 i11 a20_402 a21_611 a22_658 z_662 = (z_662, i11, a20_402, a21_611, a22_658) := by rfl
def f_m12_readsRank_b_657 (p0 : Int32) (i11 : Int32) (a22 : Nat → Int32) (a20_402 : Nat → Int32) (a21_611 : Nat → Int32) (z_615 : Int32) : Int32 × Int32 × (Nat → Int32) × (Nat → Int32) × (Nat → Int32) :=
  let a22_658 : Nat → Int32 := upd a22 p0.toNatClampNeg (0 : Int32)
  let z_662 : Int32 := z_615 + (1 : Int32)
  (f_m12_readsRank_b_664 i11 a20_402 a21_611 a22_658 z_662)
theorem f_m12_readsRank_b_657_s0 {p0 : Int32} {i11 : Int32} {a22 : Nat → Int32} {a20_402 : Nat → Int32} {a21_611 : Nat → Int32} {z_615 : Int32} {a22_658 : Nat → Int32} {z_662 : Int32} (e_a22_658 : upd a22 p0.toNatClampNeg (0 : Int32) = a22_658) (e_z_662 : z_662 = z_615 + (1 : Int32)) : f_m12_readsRank_b_657 p0 i11 a22 a20_402 a21_611 z_615 = (f_m12_readsRank_b_664 i11 a20_402 a21_611 a22_658 z_662) := by subst e_a22_658; replace e_z_662 := e_z_662.symm; subst e_z_662; rfl
def f_m12_readsRank_b_655 (p0 : Int32) (i11 : Int32) (a22 : Nat → Int32) (a20_402 : Nat → Int32) (a21_611 : Nat → Int32) (z_615 : Int32) : Int32 × Int32 × (Nat → Int32) × (Nat → Int32) × (Nat → Int32) :=
  (f_m12_readsRank_b_657 p0 i11 a22 a20_402 a21_611 z_615)
theorem f_m12_readsRank_b_655_s0 {p0 : Int32} {i11 : Int32} {a22 : Nat → Int32} {a20_402 : Nat → Int32} {a21_611 : Nat → Int32} {z_615 : Int32}  : f_m12_readsRank_b_655 p0 i11 a22 a20_402 a21_611 z_615 = (f_m12_readsRank_b_657 p0 i11 a22 a20_402 a21_611 z_615) := by rfl
def f_m12_readsRank_b_653 (p0 : Int32) (i11 : Int32) (a22 : Nat → Int32) (a20_402 : Nat → Int32) (a21_611 : Nat → Int32) (z_615 : Int32) : Int32 × Int32 × (Nat → Int32) × (Nat → Int32) × (Nat → Int32) :=
  (f_m12_readsRank_b_655 p0 i11 a22 a20_402 a21_611 z_615)
theorem f_m12_readsRank_b_653_s0 {p0 : Int32} {i11 : Int32} {a22 : Nat → Int32} {a20_402 : Nat → Int32} {a21_611 : Nat → Int32} {z_615 : Int32}  : f_m12_readsRank_b_653 p0 i11 a22 a20_402 a21_611 z_615 = (f_m12_readsRank_b_655 p0 i11 a22 a20_402 a21_611 z_615) := by rfl
def f_m12_readsRank_b_646 (p0 : Int32) (i11 : Int32) (a22 : Nat → Int32) (a20_402 : Nat → Int32) (a21_611 : Nat → Int32) (z_615 : Int32) : Int32 × Int32 × (Nat → Int32) × (Nat → Int32) × (Nat → Int32) :=
  (f_m12_readsRank_b_653 p0 i11 a22 a20_402 a21_611 z_615)
theorem f_m12_readsRank_b_646_s0 {p0 : Int32} {i11 : Int32} {a22 : Nat → Int32} {a20_402 : Nat → Int32} {a21_611 : Nat → Int32} {z_615 : Int32}  : f_m12_readsRank_b_646 p0 i11 a22 a20_402 a21_611 z_615 = (f_m12_readsRank_b_653 p0 i11 a22 a20_402 a21_611 z_615) := by rfl
def f_m12_readsRank_b_639 (p0 : Int32) (i11 : Int32) (a22 : Nat → Int32) (a20_402 : Nat → Int32) (a21_611 : Nat → Int32) (z_615 : Int32) : Int32 × Int32 × (Nat → Int32) × (Nat → Int32) × (Nat → Int32) :=
  (f_m12_readsRank_b_646 p0 i11 a22 a20_402 a21_611 z_615)
theorem f_m12_readsRank_b_639_s0 {p0 : Int32} {i11 : Int32} {a22 : Nat → Int32} {a20_402 : Nat → Int32} {a21_611 : Nat → Int32} {z_615 : Int32}  : f_m12_readsRank_b_639 p0 i11 a22 a20_402 a21_611 z_615 = (f_m12_readsRank_b_646 p0 i11 a22 a20_402 a21_611 z_615) := by rfl
def f_m12_readsRank_b_688 (a22 : Nat → Int32) (a20_402 : Nat → Int32) (a21_611 : Nat → Int32) (z_615 : Int32) (i11_677 : Int32) : Int32 × Int32 × (Nat → Int32) × (Nat → Int32) × (Nat → Int32) :=
  (z_615, i11_677, a20_402, a21_611, a22)
theorem f_m12_readsRank_b_688_r {a22 : Nat → Int32} {a20_402 : Nat → Int32} {a21_611 : Nat → Int32} {z_615 : Int32} {i11_677 : Int32}  : f_m12_readsRank_b_688 a22 a20_402 a21_611 z_615 i11_677 = (z_615, i11_677, a20_402, a21_611, a22) := by rfl
def f_m12_readsRank_b_673 (i11 : Int32) (a22 : Nat → Int32) (a20_402 : Nat → Int32) (a21_611 : Nat → Int32) (z_615 : Int32) : Int32 × Int32 × (Nat → Int32) × (Nat → Int32) × (Nat → Int32) :=
  let i11_677 : Int32 := (F_m12_fails (6 : Int32) z_615 i11)
  (f_m12_readsRank_b_688 a22 a20_402 a21_611 z_615 i11_677)
theorem f_m12_readsRank_b_673_s1 {i11 : Int32} {a22 : Nat → Int32} {a20_402 : Nat → Int32} {a21_611 : Nat → Int32} {z_615 : Int32} {i11_677 : Int32} (e_i11_677 : i11_677 = (F_m12_fails (6 : Int32) z_615 i11)) : f_m12_readsRank_b_673 i11 a22 a20_402 a21_611 z_615 = (f_m12_readsRank_b_688 a22 a20_402 a21_611 z_615 i11_677) := by replace e_i11_677 := e_i11_677.symm; subst e_i11_677; rfl
def f_m12_readsRank_b_666 (i11 : Int32) (a22 : Nat → Int32) (a20_402 : Nat → Int32) (a21_611 : Nat → Int32) (z_615 : Int32) : Int32 × Int32 × (Nat → Int32) × (Nat → Int32) × (Nat → Int32) :=
  (f_m12_readsRank_b_673 i11 a22 a20_402 a21_611 z_615)
theorem f_m12_readsRank_b_666_s1 {i11 : Int32} {a22 : Nat → Int32} {a20_402 : Nat → Int32} {a21_611 : Nat → Int32} {z_615 : Int32}  : f_m12_readsRank_b_666 i11 a22 a20_402 a21_611 z_615 = (f_m12_readsRank_b_673 i11 a22 a20_402 a21_611 z_615) := by rfl
def f_m12_readsRank_b_712 (a22 : Nat → Int32) (a20_402 : Nat → Int32) (a21_611 : Nat → Int32) (z_615 : Int32) (i11_701 : Int32) : Int32 × Int32 × (Nat → Int32) × (Nat → Int32) × (Nat → Int32) :=
  (z_615, i11_701, a20_402, a21_611, a22)
theorem f_m12_readsRank_b_712_r {a22 : Nat → Int32} {a20_402 : Nat → Int32} {a21_611 : Nat → Int32} {z_615 : Int32} {i11_701 : Int32}  : f_m12_readsRank_b_712 a22 a20_402 a21_611 z_615 i11_701 = (z_615, i11_701, a20_402, a21_611, a22) := by rfl
def f_m12_readsRank_b_697 (i11 : Int32) (a22 : Nat → Int32) (a20_402 : Nat → Int32) (a21_611 : Nat → Int32) (z_615 : Int32) : Int32 × Int32 × (Nat → Int32) × (Nat → Int32) × (Nat → Int32) :=
  let i11_701 : Int32 := (F_m12_fails (6 : Int32) z_615 i11)
  (f_m12_readsRank_b_712 a22 a20_402 a21_611 z_615 i11_701)
theorem f_m12_readsRank_b_697_s1 {i11 : Int32} {a22 : Nat → Int32} {a20_402 : Nat → Int32} {a21_611 : Nat → Int32} {z_615 : Int32} {i11_701 : Int32} (e_i11_701 : i11_701 = (F_m12_fails (6 : Int32) z_615 i11)) : f_m12_readsRank_b_697 i11 a22 a20_402 a21_611 z_615 = (f_m12_readsRank_b_712 a22 a20_402 a21_611 z_615 i11_701) := by replace e_i11_701 := e_i11_701.symm; subst e_i11_701; rfl
def f_m12_readsRank_b_690 (i11 : Int32) (a22 : Nat → Int32) (a20_402 : Nat → Int32) (a21_611 : Nat → Int32) (z_615 : Int32) : Int32 × Int32 × (Nat → Int32) × (Nat → Int32) × (Nat → Int32) :=
  (f_m12_readsRank_b_697 i11 a22 a20_402 a21_611 z_615)
theorem f_m12_readsRank_b_690_s1 {i11 : Int32} {a22 : Nat → Int32} {a20_402 : Nat → Int32} {a21_611 : Nat → Int32} {z_615 : Int32}  : f_m12_readsRank_b_690 i11 a22 a20_402 a21_611 z_615 = (f_m12_readsRank_b_697 i11 a22 a20_402 a21_611 z_615) := by rfl
def f_m12_readsRank_b_636 (p0 : Int32) (i11 : Int32) (a22 : Nat → Int32) (a20_402 : Nat → Int32) (a21_611 : Nat → Int32) (z_615 : Int32) (z_630 : Int32) : Int32 × Int32 × (Nat → Int32) × (Nat → Int32) × (Nat → Int32) :=
  if z_630.toInt = 0 then (f_m12_readsRank_b_639 p0 i11 a22 a20_402 a21_611 z_615) else if z_630.toInt = 1 then (f_m12_readsRank_b_666 i11 a22 a20_402 a21_611 z_615) else (f_m12_readsRank_b_690 i11 a22 a20_402 a21_611 z_615)
theorem f_m12_readsRank_b_636_c0 {p0 : Int32} {i11 : Int32} {a22 : Nat → Int32} {a20_402 : Nat → Int32} {a21_611 : Nat → Int32} {z_615 : Int32} {z_630 : Int32}  (hc : z_630.toInt = 0) : f_m12_readsRank_b_636 p0 i11 a22 a20_402 a21_611 z_615 z_630 = (f_m12_readsRank_b_639 p0 i11 a22 a20_402 a21_611 z_615) := by exact if_pos hc
theorem f_m12_readsRank_b_636_c1 {p0 : Int32} {i11 : Int32} {a22 : Nat → Int32} {a20_402 : Nat → Int32} {a21_611 : Nat → Int32} {z_615 : Int32} {z_630 : Int32}  (hc : z_630.toInt = 1) : f_m12_readsRank_b_636 p0 i11 a22 a20_402 a21_611 z_615 z_630 = (f_m12_readsRank_b_666 i11 a22 a20_402 a21_611 z_615) := by exact (if_neg (by omega)).trans (if_pos hc)
theorem f_m12_readsRank_b_636_c2 {p0 : Int32} {i11 : Int32} {a22 : Nat → Int32} {a20_402 : Nat → Int32} {a21_611 : Nat → Int32} {z_615 : Int32} {z_630 : Int32}  (hc : z_630.toInt = 2) : f_m12_readsRank_b_636 p0 i11 a22 a20_402 a21_611 z_615 z_630 = (f_m12_readsRank_b_690 i11 a22 a20_402 a21_611 z_615) := by exact (if_neg (by omega)).trans ((if_neg (by omega)).trans (rfl))
def f_m12_readsRank_b_728 (a22 : Nat → Int32) (a20_402 : Nat → Int32) (a21_611 : Nat → Int32) (z_615 : Int32) (i11_717 : Int32) : Int32 × Int32 × (Nat → Int32) × (Nat → Int32) × (Nat → Int32) :=
  (z_615, i11_717, a20_402, a21_611, a22)
theorem f_m12_readsRank_b_728_r {a22 : Nat → Int32} {a20_402 : Nat → Int32} {a21_611 : Nat → Int32} {z_615 : Int32} {i11_717 : Int32}  : f_m12_readsRank_b_728 a22 a20_402 a21_611 z_615 i11_717 = (z_615, i11_717, a20_402, a21_611, a22) := by rfl
def f_m12_readsRank_b_713 (i11 : Int32) (a22 : Nat → Int32) (a20_402 : Nat → Int32) (a21_611 : Nat → Int32) (z_615 : Int32) : Int32 × Int32 × (Nat → Int32) × (Nat → Int32) × (Nat → Int32) :=
  let i11_717 : Int32 := (F_m12_fails (1 : Int32) z_615 i11)
  (f_m12_readsRank_b_728 a22 a20_402 a21_611 z_615 i11_717)
theorem f_m12_readsRank_b_713_s1 {i11 : Int32} {a22 : Nat → Int32} {a20_402 : Nat → Int32} {a21_611 : Nat → Int32} {z_615 : Int32} {i11_717 : Int32} (e_i11_717 : i11_717 = (F_m12_fails (1 : Int32) z_615 i11)) : f_m12_readsRank_b_713 i11 a22 a20_402 a21_611 z_615 = (f_m12_readsRank_b_728 a22 a20_402 a21_611 z_615 i11_717) := by replace e_i11_717 := e_i11_717.symm; subst e_i11_717; rfl
def f_m12_readsRank_b_624 (p0 : Int32) (i10 : Int32) (i11 : Int32) (a1 : Nat → Int32) (a22 : Nat → Int32) (a20_402 : Nat → Int32) (a21_611 : Nat → Int32) (z_615 : Int32) : Int32 × Int32 × (Nat → Int32) × (Nat → Int32) × (Nat → Int32) :=
  let v_625 : Int32 := (F_m12_here z_615 i10 a1)
  let z_630 : Int32 := v_625 - (48 : Int32)
  let v_631 : Int32 := (F_m12_lies z_630 (0 : Int32) (2 : Int32))
  if v_631.toInt ≠ 0 then (f_m12_readsRank_b_636 p0 i11 a22 a20_402 a21_611 z_615 z_630) else (f_m12_readsRank_b_713 i11 a22 a20_402 a21_611 z_615)
theorem f_m12_readsRank_b_624_s0 {p0 : Int32} {i10 : Int32} {i11 : Int32} {a1 : Nat → Int32} {a22 : Nat → Int32} {a20_402 : Nat → Int32} {a21_611 : Nat → Int32} {z_615 : Int32} {v_625 : Int32} {z_630 : Int32} {v_631 : Int32} (e_v_625 : v_625 = (F_m12_here z_615 i10 a1)) (e_z_630 : z_630 = v_625 - (48 : Int32)) (e_v_631 : v_631 = (F_m12_lies z_630 (0 : Int32) (2 : Int32))) (hc : v_631.toInt ≠ 0) : f_m12_readsRank_b_624 p0 i10 i11 a1 a22 a20_402 a21_611 z_615 = (f_m12_readsRank_b_636 p0 i11 a22 a20_402 a21_611 z_615 z_630) := by replace e_v_625 := e_v_625.symm; subst e_v_625; replace e_z_630 := e_z_630.symm; subst e_z_630; replace e_v_631 := e_v_631.symm; subst e_v_631; exact if_pos hc
theorem f_m12_readsRank_b_624_s1 {p0 : Int32} {i10 : Int32} {i11 : Int32} {a1 : Nat → Int32} {a22 : Nat → Int32} {a20_402 : Nat → Int32} {a21_611 : Nat → Int32} {z_615 : Int32} {v_625 : Int32} {z_630 : Int32} {v_631 : Int32} (e_v_625 : v_625 = (F_m12_here z_615 i10 a1)) (e_z_630 : z_630 = v_625 - (48 : Int32)) (e_v_631 : v_631 = (F_m12_lies z_630 (0 : Int32) (2 : Int32))) (hc : ¬ (v_631.toInt ≠ 0)) : f_m12_readsRank_b_624 p0 i10 i11 a1 a22 a20_402 a21_611 z_615 = (f_m12_readsRank_b_713 i11 a22 a20_402 a21_611 z_615) := by replace e_v_625 := e_v_625.symm; subst e_v_625; replace e_z_630 := e_z_630.symm; subst e_z_630; replace e_v_631 := e_v_631.symm; subst e_v_631; exact if_neg hc
def f_m12_readsRank_b_617 (p0 : Int32) (i10 : Int32) (i11 : Int32) (a1 : Nat → Int32) (a22 : Nat → Int32) (a20_402 : Nat → Int32) (a21_611 : Nat → Int32) (z_615 : Int32) : Int32 × Int32 × (Nat → Int32) × (Nat → Int32) × (Nat → Int32) :=
  (f_m12_readsRank_b_624 p0 i10 i11 a1 a22 a20_402 a21_611 z_615)
theorem f_m12_readsRank_b_617_s1 {p0 : Int32} {i10 : Int32} {i11 : Int32} {a1 : Nat → Int32} {a22 : Nat → Int32} {a20_402 : Nat → Int32} {a21_611 : Nat → Int32} {z_615 : Int32}  : f_m12_readsRank_b_617 p0 i10 i11 a1 a22 a20_402 a21_611 z_615 = (f_m12_readsRank_b_624 p0 i10 i11 a1 a22 a20_402 a21_611 z_615) := by rfl
def f_m12_readsRank_b_610 (p0 : Int32) (i10 : Int32) (i11 : Int32) (a1 : Nat → Int32) (a21 : Nat → Int32) (a22 : Nat → Int32) (a20_402 : Nat → Int32) (z_406 : Int32) : Int32 × Int32 × (Nat → Int32) × (Nat → Int32) × (Nat → Int32) :=
  let a21_611 : Nat → Int32 := upd a21 p0.toNatClampNeg (2 : Int32)
  let z_615 : Int32 := z_406 + (1 : Int32)
  (f_m12_readsRank_b_617 p0 i10 i11 a1 a22 a20_402 a21_611 z_615)
theorem f_m12_readsRank_b_610_s1 {p0 : Int32} {i10 : Int32} {i11 : Int32} {a1 : Nat → Int32} {a21 : Nat → Int32} {a22 : Nat → Int32} {a20_402 : Nat → Int32} {z_406 : Int32} {a21_611 : Nat → Int32} {z_615 : Int32} (e_a21_611 : upd a21 p0.toNatClampNeg (2 : Int32) = a21_611) (e_z_615 : z_615 = z_406 + (1 : Int32)) : f_m12_readsRank_b_610 p0 i10 i11 a1 a21 a22 a20_402 z_406 = (f_m12_readsRank_b_617 p0 i10 i11 a1 a22 a20_402 a21_611 z_615) := by subst e_a21_611; replace e_z_615 := e_z_615.symm; subst e_z_615; rfl
def f_m12_readsRank_b_608 (p0 : Int32) (i10 : Int32) (i11 : Int32) (a1 : Nat → Int32) (a21 : Nat → Int32) (a22 : Nat → Int32) (a20_402 : Nat → Int32) (z_406 : Int32) : Int32 × Int32 × (Nat → Int32) × (Nat → Int32) × (Nat → Int32) :=
  (f_m12_readsRank_b_610 p0 i10 i11 a1 a21 a22 a20_402 z_406)
theorem f_m12_readsRank_b_608_s1 {p0 : Int32} {i10 : Int32} {i11 : Int32} {a1 : Nat → Int32} {a21 : Nat → Int32} {a22 : Nat → Int32} {a20_402 : Nat → Int32} {z_406 : Int32}  : f_m12_readsRank_b_608 p0 i10 i11 a1 a21 a22 a20_402 z_406 = (f_m12_readsRank_b_610 p0 i10 i11 a1 a21 a22 a20_402 z_406) := by rfl
def f_m12_readsRank_b_606 (p0 : Int32) (i10 : Int32) (i11 : Int32) (a1 : Nat → Int32) (a21 : Nat → Int32) (a22 : Nat → Int32) (a20_402 : Nat → Int32) (z_406 : Int32) : Int32 × Int32 × (Nat → Int32) × (Nat → Int32) × (Nat → Int32) :=
  (f_m12_readsRank_b_608 p0 i10 i11 a1 a21 a22 a20_402 z_406)
theorem f_m12_readsRank_b_606_s0 {p0 : Int32} {i10 : Int32} {i11 : Int32} {a1 : Nat → Int32} {a21 : Nat → Int32} {a22 : Nat → Int32} {a20_402 : Nat → Int32} {z_406 : Int32}  : f_m12_readsRank_b_606 p0 i10 i11 a1 a21 a22 a20_402 z_406 = (f_m12_readsRank_b_608 p0 i10 i11 a1 a21 a22 a20_402 z_406) := by rfl
def f_m12_readsRank_b_599 (p0 : Int32) (i10 : Int32) (i11 : Int32) (a1 : Nat → Int32) (a21 : Nat → Int32) (a22 : Nat → Int32) (a20_402 : Nat → Int32) (z_406 : Int32) : Int32 × Int32 × (Nat → Int32) × (Nat → Int32) × (Nat → Int32) :=
  (f_m12_readsRank_b_606 p0 i10 i11 a1 a21 a22 a20_402 z_406)
theorem f_m12_readsRank_b_599_s0 {p0 : Int32} {i10 : Int32} {i11 : Int32} {a1 : Nat → Int32} {a21 : Nat → Int32} {a22 : Nat → Int32} {a20_402 : Nat → Int32} {z_406 : Int32}  : f_m12_readsRank_b_599 p0 i10 i11 a1 a21 a22 a20_402 z_406 = (f_m12_readsRank_b_606 p0 i10 i11 a1 a21 a22 a20_402 z_406) := by rfl
def f_m12_readsRank_b_592 (p0 : Int32) (i10 : Int32) (i11 : Int32) (a1 : Nat → Int32) (a21 : Nat → Int32) (a22 : Nat → Int32) (a20_402 : Nat → Int32) (z_406 : Int32) : Int32 × Int32 × (Nat → Int32) × (Nat → Int32) × (Nat → Int32) :=
  (f_m12_readsRank_b_599 p0 i10 i11 a1 a21 a22 a20_402 z_406)
theorem f_m12_readsRank_b_592_s0 {p0 : Int32} {i10 : Int32} {i11 : Int32} {a1 : Nat → Int32} {a21 : Nat → Int32} {a22 : Nat → Int32} {a20_402 : Nat → Int32} {z_406 : Int32}  : f_m12_readsRank_b_592 p0 i10 i11 a1 a21 a22 a20_402 z_406 = (f_m12_readsRank_b_599 p0 i10 i11 a1 a21 a22 a20_402 z_406) := by rfl
def f_m12_readsRank_b_427 (p0 : Int32) (i10 : Int32) (i11 : Int32) (a1 : Nat → Int32) (a21 : Nat → Int32) (a22 : Nat → Int32) (a20_402 : Nat → Int32) (z_406 : Int32) (z_421 : Int32) : Int32 × Int32 × (Nat → Int32) × (Nat → Int32) × (Nat → Int32) :=
  if z_421.toInt = 0 then (f_m12_readsRank_b_430 p0 i10 i11 a1 a21 a22 a20_402 z_406) else if z_421.toInt = 1 then (f_m12_readsRank_b_568 i11 a21 a22 a20_402 z_406) else (f_m12_readsRank_b_592 p0 i10 i11 a1 a21 a22 a20_402 z_406)
theorem f_m12_readsRank_b_427_c0 {p0 : Int32} {i10 : Int32} {i11 : Int32} {a1 : Nat → Int32} {a21 : Nat → Int32} {a22 : Nat → Int32} {a20_402 : Nat → Int32} {z_406 : Int32} {z_421 : Int32}  (hc : z_421.toInt = 0) : f_m12_readsRank_b_427 p0 i10 i11 a1 a21 a22 a20_402 z_406 z_421 = (f_m12_readsRank_b_430 p0 i10 i11 a1 a21 a22 a20_402 z_406) := by exact if_pos hc
theorem f_m12_readsRank_b_427_c1 {p0 : Int32} {i10 : Int32} {i11 : Int32} {a1 : Nat → Int32} {a21 : Nat → Int32} {a22 : Nat → Int32} {a20_402 : Nat → Int32} {z_406 : Int32} {z_421 : Int32}  (hc : z_421.toInt = 1) : f_m12_readsRank_b_427 p0 i10 i11 a1 a21 a22 a20_402 z_406 z_421 = (f_m12_readsRank_b_568 i11 a21 a22 a20_402 z_406) := by exact (if_neg (by omega)).trans (if_pos hc)
theorem f_m12_readsRank_b_427_c2 {p0 : Int32} {i10 : Int32} {i11 : Int32} {a1 : Nat → Int32} {a21 : Nat → Int32} {a22 : Nat → Int32} {a20_402 : Nat → Int32} {z_406 : Int32} {z_421 : Int32}  (hc : z_421.toInt = 2) : f_m12_readsRank_b_427 p0 i10 i11 a1 a21 a22 a20_402 z_406 z_421 = (f_m12_readsRank_b_592 p0 i10 i11 a1 a21 a22 a20_402 z_406) := by exact (if_neg (by omega)).trans ((if_neg (by omega)).trans (rfl))
def f_m12_readsRank_b_744 (a21 : Nat → Int32) (a22 : Nat → Int32) (a20_402 : Nat → Int32) (z_406 : Int32) (i11_733 : Int32) : Int32 × Int32 × (Nat → Int32) × (Nat → Int32) × (Nat → Int32) :=
  (z_406, i11_733, a20_402, a21, a22)
theorem f_m12_readsRank_b_744_r {a21 : Nat → Int32} {a22 : Nat → Int32} {a20_402 : Nat → Int32} {z_406 : Int32} {i11_733 : Int32}  : f_m12_readsRank_b_744 a21 a22 a20_402 z_406 i11_733 = (z_406, i11_733, a20_402, a21, a22) := by rfl
def f_m12_readsRank_b_729 (i11 : Int32) (a21 : Nat → Int32) (a22 : Nat → Int32) (a20_402 : Nat → Int32) (z_406 : Int32) : Int32 × Int32 × (Nat → Int32) × (Nat → Int32) × (Nat → Int32) :=
  let i11_733 : Int32 := (F_m12_fails (1 : Int32) z_406 i11)
  (f_m12_readsRank_b_744 a21 a22 a20_402 z_406 i11_733)
theorem f_m12_readsRank_b_729_s1 {i11 : Int32} {a21 : Nat → Int32} {a22 : Nat → Int32} {a20_402 : Nat → Int32} {z_406 : Int32} {i11_733 : Int32} (e_i11_733 : i11_733 = (F_m12_fails (1 : Int32) z_406 i11)) : f_m12_readsRank_b_729 i11 a21 a22 a20_402 z_406 = (f_m12_readsRank_b_744 a21 a22 a20_402 z_406 i11_733) := by replace e_i11_733 := e_i11_733.symm; subst e_i11_733; rfl
def f_m12_readsRank_b_415 (p0 : Int32) (i10 : Int32) (i11 : Int32) (a1 : Nat → Int32) (a21 : Nat → Int32) (a22 : Nat → Int32) (a20_402 : Nat → Int32) (z_406 : Int32) : Int32 × Int32 × (Nat → Int32) × (Nat → Int32) × (Nat → Int32) :=
  let v_416 : Int32 := (F_m12_here z_406 i10 a1)
  let z_421 : Int32 := v_416 - (48 : Int32)
  let v_422 : Int32 := (F_m12_lies z_421 (0 : Int32) (2 : Int32))
  if v_422.toInt ≠ 0 then (f_m12_readsRank_b_427 p0 i10 i11 a1 a21 a22 a20_402 z_406 z_421) else (f_m12_readsRank_b_729 i11 a21 a22 a20_402 z_406)
theorem f_m12_readsRank_b_415_s0 {p0 : Int32} {i10 : Int32} {i11 : Int32} {a1 : Nat → Int32} {a21 : Nat → Int32} {a22 : Nat → Int32} {a20_402 : Nat → Int32} {z_406 : Int32} {v_416 : Int32} {z_421 : Int32} {v_422 : Int32} (e_v_416 : v_416 = (F_m12_here z_406 i10 a1)) (e_z_421 : z_421 = v_416 - (48 : Int32)) (e_v_422 : v_422 = (F_m12_lies z_421 (0 : Int32) (2 : Int32))) (hc : v_422.toInt ≠ 0) : f_m12_readsRank_b_415 p0 i10 i11 a1 a21 a22 a20_402 z_406 = (f_m12_readsRank_b_427 p0 i10 i11 a1 a21 a22 a20_402 z_406 z_421) := by replace e_v_416 := e_v_416.symm; subst e_v_416; replace e_z_421 := e_z_421.symm; subst e_z_421; replace e_v_422 := e_v_422.symm; subst e_v_422; exact if_pos hc
theorem f_m12_readsRank_b_415_s1 {p0 : Int32} {i10 : Int32} {i11 : Int32} {a1 : Nat → Int32} {a21 : Nat → Int32} {a22 : Nat → Int32} {a20_402 : Nat → Int32} {z_406 : Int32} {v_416 : Int32} {z_421 : Int32} {v_422 : Int32} (e_v_416 : v_416 = (F_m12_here z_406 i10 a1)) (e_z_421 : z_421 = v_416 - (48 : Int32)) (e_v_422 : v_422 = (F_m12_lies z_421 (0 : Int32) (2 : Int32))) (hc : ¬ (v_422.toInt ≠ 0)) : f_m12_readsRank_b_415 p0 i10 i11 a1 a21 a22 a20_402 z_406 = (f_m12_readsRank_b_729 i11 a21 a22 a20_402 z_406) := by replace e_v_416 := e_v_416.symm; subst e_v_416; replace e_z_421 := e_z_421.symm; subst e_z_421; replace e_v_422 := e_v_422.symm; subst e_v_422; exact if_neg hc
def f_m12_readsRank_b_408 (p0 : Int32) (i10 : Int32) (i11 : Int32) (a1 : Nat → Int32) (a21 : Nat → Int32) (a22 : Nat → Int32) (a20_402 : Nat → Int32) (z_406 : Int32) : Int32 × Int32 × (Nat → Int32) × (Nat → Int32) × (Nat → Int32) :=
  (f_m12_readsRank_b_415 p0 i10 i11 a1 a21 a22 a20_402 z_406)
theorem f_m12_readsRank_b_408_s1 {p0 : Int32} {i10 : Int32} {i11 : Int32} {a1 : Nat → Int32} {a21 : Nat → Int32} {a22 : Nat → Int32} {a20_402 : Nat → Int32} {z_406 : Int32}  : f_m12_readsRank_b_408 p0 i10 i11 a1 a21 a22 a20_402 z_406 = (f_m12_readsRank_b_415 p0 i10 i11 a1 a21 a22 a20_402 z_406) := by rfl
def f_m12_readsRank_b_401 (p0 : Int32) (i9 : Int32) (i10 : Int32) (i11 : Int32) (a1 : Nat → Int32) (a20 : Nat → Int32) (a21 : Nat → Int32) (a22 : Nat → Int32) : Int32 × Int32 × (Nat → Int32) × (Nat → Int32) × (Nat → Int32) :=
  let a20_402 : Nat → Int32 := upd a20 p0.toNatClampNeg (1 : Int32)
  let z_406 : Int32 := i9 + (1 : Int32)
  (f_m12_readsRank_b_408 p0 i10 i11 a1 a21 a22 a20_402 z_406)
theorem f_m12_readsRank_b_401_s1 {p0 : Int32} {i9 : Int32} {i10 : Int32} {i11 : Int32} {a1 : Nat → Int32} {a20 : Nat → Int32} {a21 : Nat → Int32} {a22 : Nat → Int32} {a20_402 : Nat → Int32} {z_406 : Int32} (e_a20_402 : upd a20 p0.toNatClampNeg (1 : Int32) = a20_402) (e_z_406 : z_406 = i9 + (1 : Int32)) : f_m12_readsRank_b_401 p0 i9 i10 i11 a1 a20 a21 a22 = (f_m12_readsRank_b_408 p0 i10 i11 a1 a21 a22 a20_402 z_406) := by subst e_a20_402; replace e_z_406 := e_z_406.symm; subst e_z_406; rfl
def f_m12_readsRank_b_399 (p0 : Int32) (i9 : Int32) (i10 : Int32) (i11 : Int32) (a1 : Nat → Int32) (a20 : Nat → Int32) (a21 : Nat → Int32) (a22 : Nat → Int32) : Int32 × Int32 × (Nat → Int32) × (Nat → Int32) × (Nat → Int32) :=
  (f_m12_readsRank_b_401 p0 i9 i10 i11 a1 a20 a21 a22)
theorem f_m12_readsRank_b_399_s1 {p0 : Int32} {i9 : Int32} {i10 : Int32} {i11 : Int32} {a1 : Nat → Int32} {a20 : Nat → Int32} {a21 : Nat → Int32} {a22 : Nat → Int32}  : f_m12_readsRank_b_399 p0 i9 i10 i11 a1 a20 a21 a22 = (f_m12_readsRank_b_401 p0 i9 i10 i11 a1 a20 a21 a22) := by rfl
def f_m12_readsRank_b_392 (p0 : Int32) (i9 : Int32) (i10 : Int32) (i11 : Int32) (a1 : Nat → Int32) (a20 : Nat → Int32) (a21 : Nat → Int32) (a22 : Nat → Int32) : Int32 × Int32 × (Nat → Int32) × (Nat → Int32) × (Nat → Int32) :=
  (f_m12_readsRank_b_399 p0 i9 i10 i11 a1 a20 a21 a22)
theorem f_m12_readsRank_b_392_s0 {p0 : Int32} {i9 : Int32} {i10 : Int32} {i11 : Int32} {a1 : Nat → Int32} {a20 : Nat → Int32} {a21 : Nat → Int32} {a22 : Nat → Int32}  : f_m12_readsRank_b_392 p0 i9 i10 i11 a1 a20 a21 a22 = (f_m12_readsRank_b_399 p0 i9 i10 i11 a1 a20 a21 a22) := by rfl
def f_m12_readsRank_b_385 (p0 : Int32) (i9 : Int32) (i10 : Int32) (i11 : Int32) (a1 : Nat → Int32) (a20 : Nat → Int32) (a21 : Nat → Int32) (a22 : Nat → Int32) : Int32 × Int32 × (Nat → Int32) × (Nat → Int32) × (Nat → Int32) :=
  (f_m12_readsRank_b_392 p0 i9 i10 i11 a1 a20 a21 a22)
theorem f_m12_readsRank_b_385_s0 {p0 : Int32} {i9 : Int32} {i10 : Int32} {i11 : Int32} {a1 : Nat → Int32} {a20 : Nat → Int32} {a21 : Nat → Int32} {a22 : Nat → Int32}  : f_m12_readsRank_b_385 p0 i9 i10 i11 a1 a20 a21 a22 = (f_m12_readsRank_b_392 p0 i9 i10 i11 a1 a20 a21 a22) := by rfl
def f_m12_readsRank_b_860 (a22 : Nat → Int32) (a20_763 : Nat → Int32) (a21_810 : Nat → Int32) (z_814 : Int32) (i11_849 : Int32) : Int32 × Int32 × (Nat → Int32) × (Nat → Int32) × (Nat → Int32) :=
  (z_814, i11_849, a20_763, a21_810, a22)
theorem f_m12_readsRank_b_860_r {a22 : Nat → Int32} {a20_763 : Nat → Int32} {a21_810 : Nat → Int32} {z_814 : Int32} {i11_849 : Int32}  : f_m12_readsRank_b_860 a22 a20_763 a21_810 z_814 i11_849 = (z_814, i11_849, a20_763, a21_810, a22) := by rfl
def f_m12_readsRank_b_845 (i11 : Int32) (a22 : Nat → Int32) (a20_763 : Nat → Int32) (a21_810 : Nat → Int32) (z_814 : Int32) : Int32 × Int32 × (Nat → Int32) × (Nat → Int32) × (Nat → Int32) :=
  let i11_849 : Int32 := (F_m12_fails (6 : Int32) z_814 i11)
  (f_m12_readsRank_b_860 a22 a20_763 a21_810 z_814 i11_849)
theorem f_m12_readsRank_b_845_s1 {i11 : Int32} {a22 : Nat → Int32} {a20_763 : Nat → Int32} {a21_810 : Nat → Int32} {z_814 : Int32} {i11_849 : Int32} (e_i11_849 : i11_849 = (F_m12_fails (6 : Int32) z_814 i11)) : f_m12_readsRank_b_845 i11 a22 a20_763 a21_810 z_814 = (f_m12_readsRank_b_860 a22 a20_763 a21_810 z_814 i11_849) := by replace e_i11_849 := e_i11_849.symm; subst e_i11_849; rfl
def f_m12_readsRank_b_838 (i11 : Int32) (a22 : Nat → Int32) (a20_763 : Nat → Int32) (a21_810 : Nat → Int32) (z_814 : Int32) : Int32 × Int32 × (Nat → Int32) × (Nat → Int32) × (Nat → Int32) :=
  (f_m12_readsRank_b_845 i11 a22 a20_763 a21_810 z_814)
theorem f_m12_readsRank_b_838_s1 {i11 : Int32} {a22 : Nat → Int32} {a20_763 : Nat → Int32} {a21_810 : Nat → Int32} {z_814 : Int32}  : f_m12_readsRank_b_838 i11 a22 a20_763 a21_810 z_814 = (f_m12_readsRank_b_845 i11 a22 a20_763 a21_810 z_814) := by rfl
def f_m12_readsRank_b_887 (i11 : Int32) (a20_763 : Nat → Int32) (a21_810 : Nat → Int32) (a22_881 : Nat → Int32) (z_885 : Int32) : Int32 × Int32 × (Nat → Int32) × (Nat → Int32) × (Nat → Int32) :=
  (z_885, i11, a20_763, a21_810, a22_881)
theorem f_m12_readsRank_b_887_r {i11 : Int32} {a20_763 : Nat → Int32} {a21_810 : Nat → Int32} {a22_881 : Nat → Int32} {z_885 : Int32}  : f_m12_readsRank_b_887 i11 a20_763 a21_810 a22_881 z_885 = (z_885, i11, a20_763, a21_810, a22_881) := by rfl
def f_m12_readsRank_b_880 (p0 : Int32) (i11 : Int32) (a22 : Nat → Int32) (a20_763 : Nat → Int32) (a21_810 : Nat → Int32) (z_814 : Int32) : Int32 × Int32 × (Nat → Int32) × (Nat → Int32) × (Nat → Int32) :=
  let a22_881 : Nat → Int32 := upd a22 p0.toNatClampNeg (1 : Int32)
  let z_885 : Int32 := z_814 + (1 : Int32)
  (f_m12_readsRank_b_887 i11 a20_763 a21_810 a22_881 z_885)
theorem f_m12_readsRank_b_880_s0 {p0 : Int32} {i11 : Int32} {a22 : Nat → Int32} {a20_763 : Nat → Int32} {a21_810 : Nat → Int32} {z_814 : Int32} {a22_881 : Nat → Int32} {z_885 : Int32} (e_a22_881 : upd a22 p0.toNatClampNeg (1 : Int32) = a22_881) (e_z_885 : z_885 = z_814 + (1 : Int32)) : f_m12_readsRank_b_880 p0 i11 a22 a20_763 a21_810 z_814 = (f_m12_readsRank_b_887 i11 a20_763 a21_810 a22_881 z_885) := by subst e_a22_881; replace e_z_885 := e_z_885.symm; subst e_z_885; rfl
def f_m12_readsRank_b_878 (p0 : Int32) (i11 : Int32) (a22 : Nat → Int32) (a20_763 : Nat → Int32) (a21_810 : Nat → Int32) (z_814 : Int32) : Int32 × Int32 × (Nat → Int32) × (Nat → Int32) × (Nat → Int32) :=
  (f_m12_readsRank_b_880 p0 i11 a22 a20_763 a21_810 z_814)
theorem f_m12_readsRank_b_878_s0 {p0 : Int32} {i11 : Int32} {a22 : Nat → Int32} {a20_763 : Nat → Int32} {a21_810 : Nat → Int32} {z_814 : Int32}  : f_m12_readsRank_b_878 p0 i11 a22 a20_763 a21_810 z_814 = (f_m12_readsRank_b_880 p0 i11 a22 a20_763 a21_810 z_814) := by rfl
def f_m12_readsRank_b_876 (p0 : Int32) (i11 : Int32) (a22 : Nat → Int32) (a20_763 : Nat → Int32) (a21_810 : Nat → Int32) (z_814 : Int32) : Int32 × Int32 × (Nat → Int32) × (Nat → Int32) × (Nat → Int32) :=
  (f_m12_readsRank_b_878 p0 i11 a22 a20_763 a21_810 z_814)
theorem f_m12_readsRank_b_876_s0 {p0 : Int32} {i11 : Int32} {a22 : Nat → Int32} {a20_763 : Nat → Int32} {a21_810 : Nat → Int32} {z_814 : Int32}  : f_m12_readsRank_b_876 p0 i11 a22 a20_763 a21_810 z_814 = (f_m12_readsRank_b_878 p0 i11 a22 a20_763 a21_810 z_814) := by rfl
def f_m12_readsRank_b_869 (p0 : Int32) (i11 : Int32) (a22 : Nat → Int32) (a20_763 : Nat → Int32) (a21_810 : Nat → Int32) (z_814 : Int32) : Int32 × Int32 × (Nat → Int32) × (Nat → Int32) × (Nat → Int32) :=
  (f_m12_readsRank_b_876 p0 i11 a22 a20_763 a21_810 z_814)
theorem f_m12_readsRank_b_869_s0 {p0 : Int32} {i11 : Int32} {a22 : Nat → Int32} {a20_763 : Nat → Int32} {a21_810 : Nat → Int32} {z_814 : Int32}  : f_m12_readsRank_b_869 p0 i11 a22 a20_763 a21_810 z_814 = (f_m12_readsRank_b_876 p0 i11 a22 a20_763 a21_810 z_814) := by rfl
def f_m12_readsRank_b_862 (p0 : Int32) (i11 : Int32) (a22 : Nat → Int32) (a20_763 : Nat → Int32) (a21_810 : Nat → Int32) (z_814 : Int32) : Int32 × Int32 × (Nat → Int32) × (Nat → Int32) × (Nat → Int32) :=
  (f_m12_readsRank_b_869 p0 i11 a22 a20_763 a21_810 z_814)
theorem f_m12_readsRank_b_862_s0 {p0 : Int32} {i11 : Int32} {a22 : Nat → Int32} {a20_763 : Nat → Int32} {a21_810 : Nat → Int32} {z_814 : Int32}  : f_m12_readsRank_b_862 p0 i11 a22 a20_763 a21_810 z_814 = (f_m12_readsRank_b_869 p0 i11 a22 a20_763 a21_810 z_814) := by rfl
def f_m12_readsRank_b_911 (a22 : Nat → Int32) (a20_763 : Nat → Int32) (a21_810 : Nat → Int32) (z_814 : Int32) (i11_900 : Int32) : Int32 × Int32 × (Nat → Int32) × (Nat → Int32) × (Nat → Int32) :=
  (z_814, i11_900, a20_763, a21_810, a22)
theorem f_m12_readsRank_b_911_r {a22 : Nat → Int32} {a20_763 : Nat → Int32} {a21_810 : Nat → Int32} {z_814 : Int32} {i11_900 : Int32}  : f_m12_readsRank_b_911 a22 a20_763 a21_810 z_814 i11_900 = (z_814, i11_900, a20_763, a21_810, a22) := by rfl
def f_m12_readsRank_b_896 (i11 : Int32) (a22 : Nat → Int32) (a20_763 : Nat → Int32) (a21_810 : Nat → Int32) (z_814 : Int32) : Int32 × Int32 × (Nat → Int32) × (Nat → Int32) × (Nat → Int32) :=
  let i11_900 : Int32 := (F_m12_fails (6 : Int32) z_814 i11)
  (f_m12_readsRank_b_911 a22 a20_763 a21_810 z_814 i11_900)
theorem f_m12_readsRank_b_896_s1 {i11 : Int32} {a22 : Nat → Int32} {a20_763 : Nat → Int32} {a21_810 : Nat → Int32} {z_814 : Int32} {i11_900 : Int32} (e_i11_900 : i11_900 = (F_m12_fails (6 : Int32) z_814 i11)) : f_m12_readsRank_b_896 i11 a22 a20_763 a21_810 z_814 = (f_m12_readsRank_b_911 a22 a20_763 a21_810 z_814 i11_900) := by replace e_i11_900 := e_i11_900.symm; subst e_i11_900; rfl
def f_m12_readsRank_b_889 (i11 : Int32) (a22 : Nat → Int32) (a20_763 : Nat → Int32) (a21_810 : Nat → Int32) (z_814 : Int32) : Int32 × Int32 × (Nat → Int32) × (Nat → Int32) × (Nat → Int32) :=
  (f_m12_readsRank_b_896 i11 a22 a20_763 a21_810 z_814)
theorem f_m12_readsRank_b_889_s1 {i11 : Int32} {a22 : Nat → Int32} {a20_763 : Nat → Int32} {a21_810 : Nat → Int32} {z_814 : Int32}  : f_m12_readsRank_b_889 i11 a22 a20_763 a21_810 z_814 = (f_m12_readsRank_b_896 i11 a22 a20_763 a21_810 z_814) := by rfl
def f_m12_readsRank_b_835 (p0 : Int32) (i11 : Int32) (a22 : Nat → Int32) (a20_763 : Nat → Int32) (a21_810 : Nat → Int32) (z_814 : Int32) (z_829 : Int32) : Int32 × Int32 × (Nat → Int32) × (Nat → Int32) × (Nat → Int32) :=
  if z_829.toInt = 0 then (f_m12_readsRank_b_838 i11 a22 a20_763 a21_810 z_814) else if z_829.toInt = 1 then (f_m12_readsRank_b_862 p0 i11 a22 a20_763 a21_810 z_814) else (f_m12_readsRank_b_889 i11 a22 a20_763 a21_810 z_814)
theorem f_m12_readsRank_b_835_c0 {p0 : Int32} {i11 : Int32} {a22 : Nat → Int32} {a20_763 : Nat → Int32} {a21_810 : Nat → Int32} {z_814 : Int32} {z_829 : Int32}  (hc : z_829.toInt = 0) : f_m12_readsRank_b_835 p0 i11 a22 a20_763 a21_810 z_814 z_829 = (f_m12_readsRank_b_838 i11 a22 a20_763 a21_810 z_814) := by exact if_pos hc
theorem f_m12_readsRank_b_835_c1 {p0 : Int32} {i11 : Int32} {a22 : Nat → Int32} {a20_763 : Nat → Int32} {a21_810 : Nat → Int32} {z_814 : Int32} {z_829 : Int32}  (hc : z_829.toInt = 1) : f_m12_readsRank_b_835 p0 i11 a22 a20_763 a21_810 z_814 z_829 = (f_m12_readsRank_b_862 p0 i11 a22 a20_763 a21_810 z_814) := by exact (if_neg (by omega)).trans (if_pos hc)
theorem f_m12_readsRank_b_835_c2 {p0 : Int32} {i11 : Int32} {a22 : Nat → Int32} {a20_763 : Nat → Int32} {a21_810 : Nat → Int32} {z_814 : Int32} {z_829 : Int32}  (hc : z_829.toInt = 2) : f_m12_readsRank_b_835 p0 i11 a22 a20_763 a21_810 z_814 z_829 = (f_m12_readsRank_b_889 i11 a22 a20_763 a21_810 z_814) := by exact (if_neg (by omega)).trans ((if_neg (by omega)).trans (rfl))
def f_m12_readsRank_b_927 (a22 : Nat → Int32) (a20_763 : Nat → Int32) (a21_810 : Nat → Int32) (z_814 : Int32) (i11_916 : Int32) : Int32 × Int32 × (Nat → Int32) × (Nat → Int32) × (Nat → Int32) :=
  (z_814, i11_916, a20_763, a21_810, a22)
theorem f_m12_readsRank_b_927_r {a22 : Nat → Int32} {a20_763 : Nat → Int32} {a21_810 : Nat → Int32} {z_814 : Int32} {i11_916 : Int32}  : f_m12_readsRank_b_927 a22 a20_763 a21_810 z_814 i11_916 = (z_814, i11_916, a20_763, a21_810, a22) := by rfl
def f_m12_readsRank_b_912 (i11 : Int32) (a22 : Nat → Int32) (a20_763 : Nat → Int32) (a21_810 : Nat → Int32) (z_814 : Int32) : Int32 × Int32 × (Nat → Int32) × (Nat → Int32) × (Nat → Int32) :=
  let i11_916 : Int32 := (F_m12_fails (1 : Int32) z_814 i11)
  (f_m12_readsRank_b_927 a22 a20_763 a21_810 z_814 i11_916)
theorem f_m12_readsRank_b_912_s1 {i11 : Int32} {a22 : Nat → Int32} {a20_763 : Nat → Int32} {a21_810 : Nat → Int32} {z_814 : Int32} {i11_916 : Int32} (e_i11_916 : i11_916 = (F_m12_fails (1 : Int32) z_814 i11)) : f_m12_readsRank_b_912 i11 a22 a20_763 a21_810 z_814 = (f_m12_readsRank_b_927 a22 a20_763 a21_810 z_814 i11_916) := by replace e_i11_916 := e_i11_916.symm; subst e_i11_916; rfl
def f_m12_readsRank_b_823 (p0 : Int32) (i10 : Int32) (i11 : Int32) (a1 : Nat → Int32) (a22 : Nat → Int32) (a20_763 : Nat → Int32) (a21_810 : Nat → Int32) (z_814 : Int32) : Int32 × Int32 × (Nat → Int32) × (Nat → Int32) × (Nat → Int32) :=
  let v_824 : Int32 := (F_m12_here z_814 i10 a1)
  let z_829 : Int32 := v_824 - (48 : Int32)
  let v_830 : Int32 := (F_m12_lies z_829 (0 : Int32) (2 : Int32))
  if v_830.toInt ≠ 0 then (f_m12_readsRank_b_835 p0 i11 a22 a20_763 a21_810 z_814 z_829) else (f_m12_readsRank_b_912 i11 a22 a20_763 a21_810 z_814)
theorem f_m12_readsRank_b_823_s0 {p0 : Int32} {i10 : Int32} {i11 : Int32} {a1 : Nat → Int32} {a22 : Nat → Int32} {a20_763 : Nat → Int32} {a21_810 : Nat → Int32} {z_814 : Int32} {v_824 : Int32} {z_829 : Int32} {v_830 : Int32} (e_v_824 : v_824 = (F_m12_here z_814 i10 a1)) (e_z_829 : z_829 = v_824 - (48 : Int32)) (e_v_830 : v_830 = (F_m12_lies z_829 (0 : Int32) (2 : Int32))) (hc : v_830.toInt ≠ 0) : f_m12_readsRank_b_823 p0 i10 i11 a1 a22 a20_763 a21_810 z_814 = (f_m12_readsRank_b_835 p0 i11 a22 a20_763 a21_810 z_814 z_829) := by replace e_v_824 := e_v_824.symm; subst e_v_824; replace e_z_829 := e_z_829.symm; subst e_z_829; replace e_v_830 := e_v_830.symm; subst e_v_830; exact if_pos hc
theorem f_m12_readsRank_b_823_s1 {p0 : Int32} {i10 : Int32} {i11 : Int32} {a1 : Nat → Int32} {a22 : Nat → Int32} {a20_763 : Nat → Int32} {a21_810 : Nat → Int32} {z_814 : Int32} {v_824 : Int32} {z_829 : Int32} {v_830 : Int32} (e_v_824 : v_824 = (F_m12_here z_814 i10 a1)) (e_z_829 : z_829 = v_824 - (48 : Int32)) (e_v_830 : v_830 = (F_m12_lies z_829 (0 : Int32) (2 : Int32))) (hc : ¬ (v_830.toInt ≠ 0)) : f_m12_readsRank_b_823 p0 i10 i11 a1 a22 a20_763 a21_810 z_814 = (f_m12_readsRank_b_912 i11 a22 a20_763 a21_810 z_814) := by replace e_v_824 := e_v_824.symm; subst e_v_824; replace e_z_829 := e_z_829.symm; subst e_z_829; replace e_v_830 := e_v_830.symm; subst e_v_830; exact if_neg hc
def f_m12_readsRank_b_816 (p0 : Int32) (i10 : Int32) (i11 : Int32) (a1 : Nat → Int32) (a22 : Nat → Int32) (a20_763 : Nat → Int32) (a21_810 : Nat → Int32) (z_814 : Int32) : Int32 × Int32 × (Nat → Int32) × (Nat → Int32) × (Nat → Int32) :=
  (f_m12_readsRank_b_823 p0 i10 i11 a1 a22 a20_763 a21_810 z_814)
theorem f_m12_readsRank_b_816_s1 {p0 : Int32} {i10 : Int32} {i11 : Int32} {a1 : Nat → Int32} {a22 : Nat → Int32} {a20_763 : Nat → Int32} {a21_810 : Nat → Int32} {z_814 : Int32}  : f_m12_readsRank_b_816 p0 i10 i11 a1 a22 a20_763 a21_810 z_814 = (f_m12_readsRank_b_823 p0 i10 i11 a1 a22 a20_763 a21_810 z_814) := by rfl
def f_m12_readsRank_b_809 (p0 : Int32) (i10 : Int32) (i11 : Int32) (a1 : Nat → Int32) (a21 : Nat → Int32) (a22 : Nat → Int32) (a20_763 : Nat → Int32) (z_767 : Int32) : Int32 × Int32 × (Nat → Int32) × (Nat → Int32) × (Nat → Int32) :=
  let a21_810 : Nat → Int32 := upd a21 p0.toNatClampNeg (0 : Int32)
  let z_814 : Int32 := z_767 + (1 : Int32)
  (f_m12_readsRank_b_816 p0 i10 i11 a1 a22 a20_763 a21_810 z_814)
theorem f_m12_readsRank_b_809_s1 {p0 : Int32} {i10 : Int32} {i11 : Int32} {a1 : Nat → Int32} {a21 : Nat → Int32} {a22 : Nat → Int32} {a20_763 : Nat → Int32} {z_767 : Int32} {a21_810 : Nat → Int32} {z_814 : Int32} (e_a21_810 : upd a21 p0.toNatClampNeg (0 : Int32) = a21_810) (e_z_814 : z_814 = z_767 + (1 : Int32)) : f_m12_readsRank_b_809 p0 i10 i11 a1 a21 a22 a20_763 z_767 = (f_m12_readsRank_b_816 p0 i10 i11 a1 a22 a20_763 a21_810 z_814) := by subst e_a21_810; replace e_z_814 := e_z_814.symm; subst e_z_814; rfl
def f_m12_readsRank_b_807 (p0 : Int32) (i10 : Int32) (i11 : Int32) (a1 : Nat → Int32) (a21 : Nat → Int32) (a22 : Nat → Int32) (a20_763 : Nat → Int32) (z_767 : Int32) : Int32 × Int32 × (Nat → Int32) × (Nat → Int32) × (Nat → Int32) :=
  (f_m12_readsRank_b_809 p0 i10 i11 a1 a21 a22 a20_763 z_767)
theorem f_m12_readsRank_b_807_s1 {p0 : Int32} {i10 : Int32} {i11 : Int32} {a1 : Nat → Int32} {a21 : Nat → Int32} {a22 : Nat → Int32} {a20_763 : Nat → Int32} {z_767 : Int32}  : f_m12_readsRank_b_807 p0 i10 i11 a1 a21 a22 a20_763 z_767 = (f_m12_readsRank_b_809 p0 i10 i11 a1 a21 a22 a20_763 z_767) := by rfl
def f_m12_readsRank_b_805 (p0 : Int32) (i10 : Int32) (i11 : Int32) (a1 : Nat → Int32) (a21 : Nat → Int32) (a22 : Nat → Int32) (a20_763 : Nat → Int32) (z_767 : Int32) : Int32 × Int32 × (Nat → Int32) × (Nat → Int32) × (Nat → Int32) :=
  (f_m12_readsRank_b_807 p0 i10 i11 a1 a21 a22 a20_763 z_767)
theorem f_m12_readsRank_b_805_s0 {p0 : Int32} {i10 : Int32} {i11 : Int32} {a1 : Nat → Int32} {a21 : Nat → Int32} {a22 : Nat → Int32} {a20_763 : Nat → Int32} {z_767 : Int32}  : f_m12_readsRank_b_805 p0 i10 i11 a1 a21 a22 a20_763 z_767 = (f_m12_readsRank_b_807 p0 i10 i11 a1 a21 a22 a20_763 z_767) := by rfl
def f_m12_readsRank_b_798 (p0 : Int32) (i10 : Int32) (i11 : Int32) (a1 : Nat → Int32) (a21 : Nat → Int32) (a22 : Nat → Int32) (a20_763 : Nat → Int32) (z_767 : Int32) : Int32 × Int32 × (Nat → Int32) × (Nat → Int32) × (Nat → Int32) :=
  (f_m12_readsRank_b_805 p0 i10 i11 a1 a21 a22 a20_763 z_767)
theorem f_m12_readsRank_b_798_s0 {p0 : Int32} {i10 : Int32} {i11 : Int32} {a1 : Nat → Int32} {a21 : Nat → Int32} {a22 : Nat → Int32} {a20_763 : Nat → Int32} {z_767 : Int32}  : f_m12_readsRank_b_798 p0 i10 i11 a1 a21 a22 a20_763 z_767 = (f_m12_readsRank_b_805 p0 i10 i11 a1 a21 a22 a20_763 z_767) := by rfl
def f_m12_readsRank_b_791 (p0 : Int32) (i10 : Int32) (i11 : Int32) (a1 : Nat → Int32) (a21 : Nat → Int32) (a22 : Nat → Int32) (a20_763 : Nat → Int32) (z_767 : Int32) : Int32 × Int32 × (Nat → Int32) × (Nat → Int32) × (Nat → Int32) :=
  (f_m12_readsRank_b_798 p0 i10 i11 a1 a21 a22 a20_763 z_767)
theorem f_m12_readsRank_b_791_s0 {p0 : Int32} {i10 : Int32} {i11 : Int32} {a1 : Nat → Int32} {a21 : Nat → Int32} {a22 : Nat → Int32} {a20_763 : Nat → Int32} {z_767 : Int32}  : f_m12_readsRank_b_791 p0 i10 i11 a1 a21 a22 a20_763 z_767 = (f_m12_readsRank_b_798 p0 i10 i11 a1 a21 a22 a20_763 z_767) := by rfl
def f_m12_readsRank_b_1001 (i11 : Int32) (a20_763 : Nat → Int32) (a21_948 : Nat → Int32) (a22_995 : Nat → Int32) (z_999 : Int32) : Int32 × Int32 × (Nat → Int32) × (Nat → Int32) × (Nat → Int32) :=
  (z_999, i11, a20_763, a21_948, a22_995)
theorem f_m12_readsRank_b_1001_r {i11 : Int32} {a20_763 : Nat → Int32} {a21_948 : Nat → Int32} {a22_995 : Nat → Int32} {z_999 : Int32}  : f_m12_readsRank_b_1001 i11 a20_763 a21_948 a22_995 z_999 = (z_999, i11, a20_763, a21_948, a22_995) := by rfl
def f_m12_readsRank_b_994 (p0 : Int32) (i11 : Int32) (a22 : Nat → Int32) (a20_763 : Nat → Int32) (a21_948 : Nat → Int32) (z_952 : Int32) : Int32 × Int32 × (Nat → Int32) × (Nat → Int32) × (Nat → Int32) :=
  let a22_995 : Nat → Int32 := upd a22 p0.toNatClampNeg (0 : Int32)
  let z_999 : Int32 := z_952 + (1 : Int32)
  (f_m12_readsRank_b_1001 i11 a20_763 a21_948 a22_995 z_999)
theorem f_m12_readsRank_b_994_s0 {p0 : Int32} {i11 : Int32} {a22 : Nat → Int32} {a20_763 : Nat → Int32} {a21_948 : Nat → Int32} {z_952 : Int32} {a22_995 : Nat → Int32} {z_999 : Int32} (e_a22_995 : upd a22 p0.toNatClampNeg (0 : Int32) = a22_995) (e_z_999 : z_999 = z_952 + (1 : Int32)) : f_m12_readsRank_b_994 p0 i11 a22 a20_763 a21_948 z_952 = (f_m12_readsRank_b_1001 i11 a20_763 a21_948 a22_995 z_999) := by subst e_a22_995; replace e_z_999 := e_z_999.symm; subst e_z_999; rfl
def f_m12_readsRank_b_992 (p0 : Int32) (i11 : Int32) (a22 : Nat → Int32) (a20_763 : Nat → Int32) (a21_948 : Nat → Int32) (z_952 : Int32) : Int32 × Int32 × (Nat → Int32) × (Nat → Int32) × (Nat → Int32) :=
  (f_m12_readsRank_b_994 p0 i11 a22 a20_763 a21_948 z_952)
theorem f_m12_readsRank_b_992_s0 {p0 : Int32} {i11 : Int32} {a22 : Nat → Int32} {a20_763 : Nat → Int32} {a21_948 : Nat → Int32} {z_952 : Int32}  : f_m12_readsRank_b_992 p0 i11 a22 a20_763 a21_948 z_952 = (f_m12_readsRank_b_994 p0 i11 a22 a20_763 a21_948 z_952) := by rfl
def f_m12_readsRank_b_990 (p0 : Int32) (i11 : Int32) (a22 : Nat → Int32) (a20_763 : Nat → Int32) (a21_948 : Nat → Int32) (z_952 : Int32) : Int32 × Int32 × (Nat → Int32) × (Nat → Int32) × (Nat → Int32) :=
  (f_m12_readsRank_b_992 p0 i11 a22 a20_763 a21_948 z_952)
theorem f_m12_readsRank_b_990_s0 {p0 : Int32} {i11 : Int32} {a22 : Nat → Int32} {a20_763 : Nat → Int32} {a21_948 : Nat → Int32} {z_952 : Int32}  : f_m12_readsRank_b_990 p0 i11 a22 a20_763 a21_948 z_952 = (f_m12_readsRank_b_992 p0 i11 a22 a20_763 a21_948 z_952) := by rfl
def f_m12_readsRank_b_983 (p0 : Int32) (i11 : Int32) (a22 : Nat → Int32) (a20_763 : Nat → Int32) (a21_948 : Nat → Int32) (z_952 : Int32) : Int32 × Int32 × (Nat → Int32) × (Nat → Int32) × (Nat → Int32) :=
  (f_m12_readsRank_b_990 p0 i11 a22 a20_763 a21_948 z_952)
theorem f_m12_readsRank_b_983_s0 {p0 : Int32} {i11 : Int32} {a22 : Nat → Int32} {a20_763 : Nat → Int32} {a21_948 : Nat → Int32} {z_952 : Int32}  : f_m12_readsRank_b_983 p0 i11 a22 a20_763 a21_948 z_952 = (f_m12_readsRank_b_990 p0 i11 a22 a20_763 a21_948 z_952) := by rfl
def f_m12_readsRank_b_976 (p0 : Int32) (i11 : Int32) (a22 : Nat → Int32) (a20_763 : Nat → Int32) (a21_948 : Nat → Int32) (z_952 : Int32) : Int32 × Int32 × (Nat → Int32) × (Nat → Int32) × (Nat → Int32) :=
  (f_m12_readsRank_b_983 p0 i11 a22 a20_763 a21_948 z_952)
theorem f_m12_readsRank_b_976_s0 {p0 : Int32} {i11 : Int32} {a22 : Nat → Int32} {a20_763 : Nat → Int32} {a21_948 : Nat → Int32} {z_952 : Int32}  : f_m12_readsRank_b_976 p0 i11 a22 a20_763 a21_948 z_952 = (f_m12_readsRank_b_983 p0 i11 a22 a20_763 a21_948 z_952) := by rfl
def f_m12_readsRank_b_1025 (a22 : Nat → Int32) (a20_763 : Nat → Int32) (a21_948 : Nat → Int32) (z_952 : Int32) (i11_1014 : Int32) : Int32 × Int32 × (Nat → Int32) × (Nat → Int32) × (Nat → Int32) :=
  (z_952, i11_1014, a20_763, a21_948, a22)
theorem f_m12_readsRank_b_1025_r {a22 : Nat → Int32} {a20_763 : Nat → Int32} {a21_948 : Nat → Int32} {z_952 : Int32} {i11_1014 : Int32}  : f_m12_readsRank_b_1025 a22 a20_763 a21_948 z_952 i11_1014 = (z_952, i11_1014, a20_763, a21_948, a22) := by rfl
def f_m12_readsRank_b_1010 (i11 : Int32) (a22 : Nat → Int32) (a20_763 : Nat → Int32) (a21_948 : Nat → Int32) (z_952 : Int32) : Int32 × Int32 × (Nat → Int32) × (Nat → Int32) × (Nat → Int32) :=
  let i11_1014 : Int32 := (F_m12_fails (6 : Int32) z_952 i11)
  (f_m12_readsRank_b_1025 a22 a20_763 a21_948 z_952 i11_1014)
theorem f_m12_readsRank_b_1010_s1 {i11 : Int32} {a22 : Nat → Int32} {a20_763 : Nat → Int32} {a21_948 : Nat → Int32} {z_952 : Int32} {i11_1014 : Int32} (e_i11_1014 : i11_1014 = (F_m12_fails (6 : Int32) z_952 i11)) : f_m12_readsRank_b_1010 i11 a22 a20_763 a21_948 z_952 = (f_m12_readsRank_b_1025 a22 a20_763 a21_948 z_952 i11_1014) := by replace e_i11_1014 := e_i11_1014.symm; subst e_i11_1014; rfl
def f_m12_readsRank_b_1003 (i11 : Int32) (a22 : Nat → Int32) (a20_763 : Nat → Int32) (a21_948 : Nat → Int32) (z_952 : Int32) : Int32 × Int32 × (Nat → Int32) × (Nat → Int32) × (Nat → Int32) :=
  (f_m12_readsRank_b_1010 i11 a22 a20_763 a21_948 z_952)
theorem f_m12_readsRank_b_1003_s1 {i11 : Int32} {a22 : Nat → Int32} {a20_763 : Nat → Int32} {a21_948 : Nat → Int32} {z_952 : Int32}  : f_m12_readsRank_b_1003 i11 a22 a20_763 a21_948 z_952 = (f_m12_readsRank_b_1010 i11 a22 a20_763 a21_948 z_952) := by rfl
def f_m12_readsRank_b_1049 (a22 : Nat → Int32) (a20_763 : Nat → Int32) (a21_948 : Nat → Int32) (z_952 : Int32) (i11_1038 : Int32) : Int32 × Int32 × (Nat → Int32) × (Nat → Int32) × (Nat → Int32) :=
  (z_952, i11_1038, a20_763, a21_948, a22)
theorem f_m12_readsRank_b_1049_r {a22 : Nat → Int32} {a20_763 : Nat → Int32} {a21_948 : Nat → Int32} {z_952 : Int32} {i11_1038 : Int32}  : f_m12_readsRank_b_1049 a22 a20_763 a21_948 z_952 i11_1038 = (z_952, i11_1038, a20_763, a21_948, a22) := by rfl
def f_m12_readsRank_b_1034 (i11 : Int32) (a22 : Nat → Int32) (a20_763 : Nat → Int32) (a21_948 : Nat → Int32) (z_952 : Int32) : Int32 × Int32 × (Nat → Int32) × (Nat → Int32) × (Nat → Int32) :=
  let i11_1038 : Int32 := (F_m12_fails (6 : Int32) z_952 i11)
  (f_m12_readsRank_b_1049 a22 a20_763 a21_948 z_952 i11_1038)
theorem f_m12_readsRank_b_1034_s1 {i11 : Int32} {a22 : Nat → Int32} {a20_763 : Nat → Int32} {a21_948 : Nat → Int32} {z_952 : Int32} {i11_1038 : Int32} (e_i11_1038 : i11_1038 = (F_m12_fails (6 : Int32) z_952 i11)) : f_m12_readsRank_b_1034 i11 a22 a20_763 a21_948 z_952 = (f_m12_readsRank_b_1049 a22 a20_763 a21_948 z_952 i11_1038) := by replace e_i11_1038 := e_i11_1038.symm; subst e_i11_1038; rfl
def f_m12_readsRank_b_1027 (i11 : Int32) (a22 : Nat → Int32) (a20_763 : Nat → Int32) (a21_948 : Nat → Int32) (z_952 : Int32) : Int32 × Int32 × (Nat → Int32) × (Nat → Int32) × (Nat → Int32) :=
  (f_m12_readsRank_b_1034 i11 a22 a20_763 a21_948 z_952)
theorem f_m12_readsRank_b_1027_s1 {i11 : Int32} {a22 : Nat → Int32} {a20_763 : Nat → Int32} {a21_948 : Nat → Int32} {z_952 : Int32}  : f_m12_readsRank_b_1027 i11 a22 a20_763 a21_948 z_952 = (f_m12_readsRank_b_1034 i11 a22 a20_763 a21_948 z_952) := by rfl
def f_m12_readsRank_b_973 (p0 : Int32) (i11 : Int32) (a22 : Nat → Int32) (a20_763 : Nat → Int32) (a21_948 : Nat → Int32) (z_952 : Int32) (z_967 : Int32) : Int32 × Int32 × (Nat → Int32) × (Nat → Int32) × (Nat → Int32) :=
  if z_967.toInt = 0 then (f_m12_readsRank_b_976 p0 i11 a22 a20_763 a21_948 z_952) else if z_967.toInt = 1 then (f_m12_readsRank_b_1003 i11 a22 a20_763 a21_948 z_952) else (f_m12_readsRank_b_1027 i11 a22 a20_763 a21_948 z_952)
theorem f_m12_readsRank_b_973_c0 {p0 : Int32} {i11 : Int32} {a22 : Nat → Int32} {a20_763 : Nat → Int32} {a21_948 : Nat → Int32} {z_952 : Int32} {z_967 : Int32}  (hc : z_967.toInt = 0) : f_m12_readsRank_b_973 p0 i11 a22 a20_763 a21_948 z_952 z_967 = (f_m12_readsRank_b_976 p0 i11 a22 a20_763 a21_948 z_952) := by exact if_pos hc
theorem f_m12_readsRank_b_973_c1 {p0 : Int32} {i11 : Int32} {a22 : Nat → Int32} {a20_763 : Nat → Int32} {a21_948 : Nat → Int32} {z_952 : Int32} {z_967 : Int32}  (hc : z_967.toInt = 1) : f_m12_readsRank_b_973 p0 i11 a22 a20_763 a21_948 z_952 z_967 = (f_m12_readsRank_b_1003 i11 a22 a20_763 a21_948 z_952) := by exact (if_neg (by omega)).trans (if_pos hc)
theorem f_m12_readsRank_b_973_c2 {p0 : Int32} {i11 : Int32} {a22 : Nat → Int32} {a20_763 : Nat → Int32} {a21_948 : Nat → Int32} {z_952 : Int32} {z_967 : Int32}  (hc : z_967.toInt = 2) : f_m12_readsRank_b_973 p0 i11 a22 a20_763 a21_948 z_952 z_967 = (f_m12_readsRank_b_1027 i11 a22 a20_763 a21_948 z_952) := by exact (if_neg (by omega)).trans ((if_neg (by omega)).trans (rfl))
def f_m12_readsRank_b_1065 (a22 : Nat → Int32) (a20_763 : Nat → Int32) (a21_948 : Nat → Int32) (z_952 : Int32) (i11_1054 : Int32) : Int32 × Int32 × (Nat → Int32) × (Nat → Int32) × (Nat → Int32) :=
  (z_952, i11_1054, a20_763, a21_948, a22)
theorem f_m12_readsRank_b_1065_r {a22 : Nat → Int32} {a20_763 : Nat → Int32} {a21_948 : Nat → Int32} {z_952 : Int32} {i11_1054 : Int32}  : f_m12_readsRank_b_1065 a22 a20_763 a21_948 z_952 i11_1054 = (z_952, i11_1054, a20_763, a21_948, a22) := by rfl
def f_m12_readsRank_b_1050 (i11 : Int32) (a22 : Nat → Int32) (a20_763 : Nat → Int32) (a21_948 : Nat → Int32) (z_952 : Int32) : Int32 × Int32 × (Nat → Int32) × (Nat → Int32) × (Nat → Int32) :=
  let i11_1054 : Int32 := (F_m12_fails (1 : Int32) z_952 i11)
  (f_m12_readsRank_b_1065 a22 a20_763 a21_948 z_952 i11_1054)
theorem f_m12_readsRank_b_1050_s1 {i11 : Int32} {a22 : Nat → Int32} {a20_763 : Nat → Int32} {a21_948 : Nat → Int32} {z_952 : Int32} {i11_1054 : Int32} (e_i11_1054 : i11_1054 = (F_m12_fails (1 : Int32) z_952 i11)) : f_m12_readsRank_b_1050 i11 a22 a20_763 a21_948 z_952 = (f_m12_readsRank_b_1065 a22 a20_763 a21_948 z_952 i11_1054) := by replace e_i11_1054 := e_i11_1054.symm; subst e_i11_1054; rfl
def f_m12_readsRank_b_961 (p0 : Int32) (i10 : Int32) (i11 : Int32) (a1 : Nat → Int32) (a22 : Nat → Int32) (a20_763 : Nat → Int32) (a21_948 : Nat → Int32) (z_952 : Int32) : Int32 × Int32 × (Nat → Int32) × (Nat → Int32) × (Nat → Int32) :=
  let v_962 : Int32 := (F_m12_here z_952 i10 a1)
  let z_967 : Int32 := v_962 - (48 : Int32)
  let v_968 : Int32 := (F_m12_lies z_967 (0 : Int32) (2 : Int32))
  if v_968.toInt ≠ 0 then (f_m12_readsRank_b_973 p0 i11 a22 a20_763 a21_948 z_952 z_967) else (f_m12_readsRank_b_1050 i11 a22 a20_763 a21_948 z_952)
theorem f_m12_readsRank_b_961_s0 {p0 : Int32} {i10 : Int32} {i11 : Int32} {a1 : Nat → Int32} {a22 : Nat → Int32} {a20_763 : Nat → Int32} {a21_948 : Nat → Int32} {z_952 : Int32} {v_962 : Int32} {z_967 : Int32} {v_968 : Int32} (e_v_962 : v_962 = (F_m12_here z_952 i10 a1)) (e_z_967 : z_967 = v_962 - (48 : Int32)) (e_v_968 : v_968 = (F_m12_lies z_967 (0 : Int32) (2 : Int32))) (hc : v_968.toInt ≠ 0) : f_m12_readsRank_b_961 p0 i10 i11 a1 a22 a20_763 a21_948 z_952 = (f_m12_readsRank_b_973 p0 i11 a22 a20_763 a21_948 z_952 z_967) := by replace e_v_962 := e_v_962.symm; subst e_v_962; replace e_z_967 := e_z_967.symm; subst e_z_967; replace e_v_968 := e_v_968.symm; subst e_v_968; exact if_pos hc
theorem f_m12_readsRank_b_961_s1 {p0 : Int32} {i10 : Int32} {i11 : Int32} {a1 : Nat → Int32} {a22 : Nat → Int32} {a20_763 : Nat → Int32} {a21_948 : Nat → Int32} {z_952 : Int32} {v_962 : Int32} {z_967 : Int32} {v_968 : Int32} (e_v_962 : v_962 = (F_m12_here z_952 i10 a1)) (e_z_967 : z_967 = v_962 - (48 : Int32)) (e_v_968 : v_968 = (F_m12_lies z_967 (0 : Int32) (2 : Int32))) (hc : ¬ (v_968.toInt ≠ 0)) : f_m12_readsRank_b_961 p0 i10 i11 a1 a22 a20_763 a21_948 z_952 = (f_m12_readsRank_b_1050 i11 a22 a20_763 a21_948 z_952) := by replace e_v_962 := e_v_962.symm; subst e_v_962; replace e_z_967 := e_z_967.symm; subst e_z_967; replace e_v_968 := e_v_968.symm; subst e_v_968; exact if_neg hc
def f_m12_readsRank_b_954 (p0 : Int32) (i10 : Int32) (i11 : Int32) (a1 : Nat → Int32) (a22 : Nat → Int32) (a20_763 : Nat → Int32) (a21_948 : Nat → Int32) (z_952 : Int32) : Int32 × Int32 × (Nat → Int32) × (Nat → Int32) × (Nat → Int32) :=
  (f_m12_readsRank_b_961 p0 i10 i11 a1 a22 a20_763 a21_948 z_952)
theorem f_m12_readsRank_b_954_s1 {p0 : Int32} {i10 : Int32} {i11 : Int32} {a1 : Nat → Int32} {a22 : Nat → Int32} {a20_763 : Nat → Int32} {a21_948 : Nat → Int32} {z_952 : Int32}  : f_m12_readsRank_b_954 p0 i10 i11 a1 a22 a20_763 a21_948 z_952 = (f_m12_readsRank_b_961 p0 i10 i11 a1 a22 a20_763 a21_948 z_952) := by rfl
def f_m12_readsRank_b_947 (p0 : Int32) (i10 : Int32) (i11 : Int32) (a1 : Nat → Int32) (a21 : Nat → Int32) (a22 : Nat → Int32) (a20_763 : Nat → Int32) (z_767 : Int32) : Int32 × Int32 × (Nat → Int32) × (Nat → Int32) × (Nat → Int32) :=
  let a21_948 : Nat → Int32 := upd a21 p0.toNatClampNeg (1 : Int32)
  let z_952 : Int32 := z_767 + (1 : Int32)
  (f_m12_readsRank_b_954 p0 i10 i11 a1 a22 a20_763 a21_948 z_952)
theorem f_m12_readsRank_b_947_s1 {p0 : Int32} {i10 : Int32} {i11 : Int32} {a1 : Nat → Int32} {a21 : Nat → Int32} {a22 : Nat → Int32} {a20_763 : Nat → Int32} {z_767 : Int32} {a21_948 : Nat → Int32} {z_952 : Int32} (e_a21_948 : upd a21 p0.toNatClampNeg (1 : Int32) = a21_948) (e_z_952 : z_952 = z_767 + (1 : Int32)) : f_m12_readsRank_b_947 p0 i10 i11 a1 a21 a22 a20_763 z_767 = (f_m12_readsRank_b_954 p0 i10 i11 a1 a22 a20_763 a21_948 z_952) := by subst e_a21_948; replace e_z_952 := e_z_952.symm; subst e_z_952; rfl
def f_m12_readsRank_b_945 (p0 : Int32) (i10 : Int32) (i11 : Int32) (a1 : Nat → Int32) (a21 : Nat → Int32) (a22 : Nat → Int32) (a20_763 : Nat → Int32) (z_767 : Int32) : Int32 × Int32 × (Nat → Int32) × (Nat → Int32) × (Nat → Int32) :=
  (f_m12_readsRank_b_947 p0 i10 i11 a1 a21 a22 a20_763 z_767)
theorem f_m12_readsRank_b_945_s1 {p0 : Int32} {i10 : Int32} {i11 : Int32} {a1 : Nat → Int32} {a21 : Nat → Int32} {a22 : Nat → Int32} {a20_763 : Nat → Int32} {z_767 : Int32}  : f_m12_readsRank_b_945 p0 i10 i11 a1 a21 a22 a20_763 z_767 = (f_m12_readsRank_b_947 p0 i10 i11 a1 a21 a22 a20_763 z_767) := by rfl
def f_m12_readsRank_b_943 (p0 : Int32) (i10 : Int32) (i11 : Int32) (a1 : Nat → Int32) (a21 : Nat → Int32) (a22 : Nat → Int32) (a20_763 : Nat → Int32) (z_767 : Int32) : Int32 × Int32 × (Nat → Int32) × (Nat → Int32) × (Nat → Int32) :=
  (f_m12_readsRank_b_945 p0 i10 i11 a1 a21 a22 a20_763 z_767)
theorem f_m12_readsRank_b_943_s0 {p0 : Int32} {i10 : Int32} {i11 : Int32} {a1 : Nat → Int32} {a21 : Nat → Int32} {a22 : Nat → Int32} {a20_763 : Nat → Int32} {z_767 : Int32}  : f_m12_readsRank_b_943 p0 i10 i11 a1 a21 a22 a20_763 z_767 = (f_m12_readsRank_b_945 p0 i10 i11 a1 a21 a22 a20_763 z_767) := by rfl
def f_m12_readsRank_b_936 (p0 : Int32) (i10 : Int32) (i11 : Int32) (a1 : Nat → Int32) (a21 : Nat → Int32) (a22 : Nat → Int32) (a20_763 : Nat → Int32) (z_767 : Int32) : Int32 × Int32 × (Nat → Int32) × (Nat → Int32) × (Nat → Int32) :=
  (f_m12_readsRank_b_943 p0 i10 i11 a1 a21 a22 a20_763 z_767)
theorem f_m12_readsRank_b_936_s0 {p0 : Int32} {i10 : Int32} {i11 : Int32} {a1 : Nat → Int32} {a21 : Nat → Int32} {a22 : Nat → Int32} {a20_763 : Nat → Int32} {z_767 : Int32}  : f_m12_readsRank_b_936 p0 i10 i11 a1 a21 a22 a20_763 z_767 = (f_m12_readsRank_b_943 p0 i10 i11 a1 a21 a22 a20_763 z_767) := by rfl
def f_m12_readsRank_b_929 (p0 : Int32) (i10 : Int32) (i11 : Int32) (a1 : Nat → Int32) (a21 : Nat → Int32) (a22 : Nat → Int32) (a20_763 : Nat → Int32) (z_767 : Int32) : Int32 × Int32 × (Nat → Int32) × (Nat → Int32) × (Nat → Int32) :=
  (f_m12_readsRank_b_936 p0 i10 i11 a1 a21 a22 a20_763 z_767)
theorem f_m12_readsRank_b_929_s0 {p0 : Int32} {i10 : Int32} {i11 : Int32} {a1 : Nat → Int32} {a21 : Nat → Int32} {a22 : Nat → Int32} {a20_763 : Nat → Int32} {z_767 : Int32}  : f_m12_readsRank_b_929 p0 i10 i11 a1 a21 a22 a20_763 z_767 = (f_m12_readsRank_b_936 p0 i10 i11 a1 a21 a22 a20_763 z_767) := by rfl
def f_m12_readsRank_b_1089 (a21 : Nat → Int32) (a22 : Nat → Int32) (a20_763 : Nat → Int32) (z_767 : Int32) (i11_1078 : Int32) : Int32 × Int32 × (Nat → Int32) × (Nat → Int32) × (Nat → Int32) :=
  (z_767, i11_1078, a20_763, a21, a22)
theorem f_m12_readsRank_b_1089_r {a21 : Nat → Int32} {a22 : Nat → Int32} {a20_763 : Nat → Int32} {z_767 : Int32} {i11_1078 : Int32}  : f_m12_readsRank_b_1089 a21 a22 a20_763 z_767 i11_1078 = (z_767, i11_1078, a20_763, a21, a22) := by rfl
def f_m12_readsRank_b_1074 (i11 : Int32) (a21 : Nat → Int32) (a22 : Nat → Int32) (a20_763 : Nat → Int32) (z_767 : Int32) : Int32 × Int32 × (Nat → Int32) × (Nat → Int32) × (Nat → Int32) :=
  let i11_1078 : Int32 := (F_m12_fails (6 : Int32) z_767 i11)
  (f_m12_readsRank_b_1089 a21 a22 a20_763 z_767 i11_1078)
theorem f_m12_readsRank_b_1074_s1 {i11 : Int32} {a21 : Nat → Int32} {a22 : Nat → Int32} {a20_763 : Nat → Int32} {z_767 : Int32} {i11_1078 : Int32} (e_i11_1078 : i11_1078 = (F_m12_fails (6 : Int32) z_767 i11)) : f_m12_readsRank_b_1074 i11 a21 a22 a20_763 z_767 = (f_m12_readsRank_b_1089 a21 a22 a20_763 z_767 i11_1078) := by replace e_i11_1078 := e_i11_1078.symm; subst e_i11_1078; rfl
def f_m12_readsRank_b_1067 (i11 : Int32) (a21 : Nat → Int32) (a22 : Nat → Int32) (a20_763 : Nat → Int32) (z_767 : Int32) : Int32 × Int32 × (Nat → Int32) × (Nat → Int32) × (Nat → Int32) :=
  (f_m12_readsRank_b_1074 i11 a21 a22 a20_763 z_767)
theorem f_m12_readsRank_b_1067_s1 {i11 : Int32} {a21 : Nat → Int32} {a22 : Nat → Int32} {a20_763 : Nat → Int32} {z_767 : Int32}  : f_m12_readsRank_b_1067 i11 a21 a22 a20_763 z_767 = (f_m12_readsRank_b_1074 i11 a21 a22 a20_763 z_767) := by rfl
def f_m12_readsRank_b_788 (p0 : Int32) (i10 : Int32) (i11 : Int32) (a1 : Nat → Int32) (a21 : Nat → Int32) (a22 : Nat → Int32) (a20_763 : Nat → Int32) (z_767 : Int32) (z_782 : Int32) : Int32 × Int32 × (Nat → Int32) × (Nat → Int32) × (Nat → Int32) :=
  if z_782.toInt = 0 then (f_m12_readsRank_b_791 p0 i10 i11 a1 a21 a22 a20_763 z_767) else if z_782.toInt = 1 then (f_m12_readsRank_b_929 p0 i10 i11 a1 a21 a22 a20_763 z_767) else (f_m12_readsRank_b_1067 i11 a21 a22 a20_763 z_767)
theorem f_m12_readsRank_b_788_c0 {p0 : Int32} {i10 : Int32} {i11 : Int32} {a1 : Nat → Int32} {a21 : Nat → Int32} {a22 : Nat → Int32} {a20_763 : Nat → Int32} {z_767 : Int32} {z_782 : Int32}  (hc : z_782.toInt = 0) : f_m12_readsRank_b_788 p0 i10 i11 a1 a21 a22 a20_763 z_767 z_782 = (f_m12_readsRank_b_791 p0 i10 i11 a1 a21 a22 a20_763 z_767) := by exact if_pos hc
theorem f_m12_readsRank_b_788_c1 {p0 : Int32} {i10 : Int32} {i11 : Int32} {a1 : Nat → Int32} {a21 : Nat → Int32} {a22 : Nat → Int32} {a20_763 : Nat → Int32} {z_767 : Int32} {z_782 : Int32}  (hc : z_782.toInt = 1) : f_m12_readsRank_b_788 p0 i10 i11 a1 a21 a22 a20_763 z_767 z_782 = (f_m12_readsRank_b_929 p0 i10 i11 a1 a21 a22 a20_763 z_767) := by exact (if_neg (by omega)).trans (if_pos hc)
theorem f_m12_readsRank_b_788_c2 {p0 : Int32} {i10 : Int32} {i11 : Int32} {a1 : Nat → Int32} {a21 : Nat → Int32} {a22 : Nat → Int32} {a20_763 : Nat → Int32} {z_767 : Int32} {z_782 : Int32}  (hc : z_782.toInt = 2) : f_m12_readsRank_b_788 p0 i10 i11 a1 a21 a22 a20_763 z_767 z_782 = (f_m12_readsRank_b_1067 i11 a21 a22 a20_763 z_767) := by exact (if_neg (by omega)).trans ((if_neg (by omega)).trans (rfl))
def f_m12_readsRank_b_1105 (a21 : Nat → Int32) (a22 : Nat → Int32) (a20_763 : Nat → Int32) (z_767 : Int32) (i11_1094 : Int32) : Int32 × Int32 × (Nat → Int32) × (Nat → Int32) × (Nat → Int32) :=
  (z_767, i11_1094, a20_763, a21, a22)
theorem f_m12_readsRank_b_1105_r {a21 : Nat → Int32} {a22 : Nat → Int32} {a20_763 : Nat → Int32} {z_767 : Int32} {i11_1094 : Int32}  : f_m12_readsRank_b_1105 a21 a22 a20_763 z_767 i11_1094 = (z_767, i11_1094, a20_763, a21, a22) := by rfl
def f_m12_readsRank_b_1090 (i11 : Int32) (a21 : Nat → Int32) (a22 : Nat → Int32) (a20_763 : Nat → Int32) (z_767 : Int32) : Int32 × Int32 × (Nat → Int32) × (Nat → Int32) × (Nat → Int32) :=
  let i11_1094 : Int32 := (F_m12_fails (1 : Int32) z_767 i11)
  (f_m12_readsRank_b_1105 a21 a22 a20_763 z_767 i11_1094)
theorem f_m12_readsRank_b_1090_s1 {i11 : Int32} {a21 : Nat → Int32} {a22 : Nat → Int32} {a20_763 : Nat → Int32} {z_767 : Int32} {i11_1094 : Int32} (e_i11_1094 : i11_1094 = (F_m12_fails (1 : Int32) z_767 i11)) : f_m12_readsRank_b_1090 i11 a21 a22 a20_763 z_767 = (f_m12_readsRank_b_1105 a21 a22 a20_763 z_767 i11_1094) := by replace e_i11_1094 := e_i11_1094.symm; subst e_i11_1094; rfl
def f_m12_readsRank_b_776 (p0 : Int32) (i10 : Int32) (i11 : Int32) (a1 : Nat → Int32) (a21 : Nat → Int32) (a22 : Nat → Int32) (a20_763 : Nat → Int32) (z_767 : Int32) : Int32 × Int32 × (Nat → Int32) × (Nat → Int32) × (Nat → Int32) :=
  let v_777 : Int32 := (F_m12_here z_767 i10 a1)
  let z_782 : Int32 := v_777 - (48 : Int32)
  let v_783 : Int32 := (F_m12_lies z_782 (0 : Int32) (2 : Int32))
  if v_783.toInt ≠ 0 then (f_m12_readsRank_b_788 p0 i10 i11 a1 a21 a22 a20_763 z_767 z_782) else (f_m12_readsRank_b_1090 i11 a21 a22 a20_763 z_767)
theorem f_m12_readsRank_b_776_s0 {p0 : Int32} {i10 : Int32} {i11 : Int32} {a1 : Nat → Int32} {a21 : Nat → Int32} {a22 : Nat → Int32} {a20_763 : Nat → Int32} {z_767 : Int32} {v_777 : Int32} {z_782 : Int32} {v_783 : Int32} (e_v_777 : v_777 = (F_m12_here z_767 i10 a1)) (e_z_782 : z_782 = v_777 - (48 : Int32)) (e_v_783 : v_783 = (F_m12_lies z_782 (0 : Int32) (2 : Int32))) (hc : v_783.toInt ≠ 0) : f_m12_readsRank_b_776 p0 i10 i11 a1 a21 a22 a20_763 z_767 = (f_m12_readsRank_b_788 p0 i10 i11 a1 a21 a22 a20_763 z_767 z_782) := by replace e_v_777 := e_v_777.symm; subst e_v_777; replace e_z_782 := e_z_782.symm; subst e_z_782; replace e_v_783 := e_v_783.symm; subst e_v_783; exact if_pos hc
theorem f_m12_readsRank_b_776_s1 {p0 : Int32} {i10 : Int32} {i11 : Int32} {a1 : Nat → Int32} {a21 : Nat → Int32} {a22 : Nat → Int32} {a20_763 : Nat → Int32} {z_767 : Int32} {v_777 : Int32} {z_782 : Int32} {v_783 : Int32} (e_v_777 : v_777 = (F_m12_here z_767 i10 a1)) (e_z_782 : z_782 = v_777 - (48 : Int32)) (e_v_783 : v_783 = (F_m12_lies z_782 (0 : Int32) (2 : Int32))) (hc : ¬ (v_783.toInt ≠ 0)) : f_m12_readsRank_b_776 p0 i10 i11 a1 a21 a22 a20_763 z_767 = (f_m12_readsRank_b_1090 i11 a21 a22 a20_763 z_767) := by replace e_v_777 := e_v_777.symm; subst e_v_777; replace e_z_782 := e_z_782.symm; subst e_z_782; replace e_v_783 := e_v_783.symm; subst e_v_783; exact if_neg hc
def f_m12_readsRank_b_769 (p0 : Int32) (i10 : Int32) (i11 : Int32) (a1 : Nat → Int32) (a21 : Nat → Int32) (a22 : Nat → Int32) (a20_763 : Nat → Int32) (z_767 : Int32) : Int32 × Int32 × (Nat → Int32) × (Nat → Int32) × (Nat → Int32) :=
  (f_m12_readsRank_b_776 p0 i10 i11 a1 a21 a22 a20_763 z_767)
theorem f_m12_readsRank_b_769_s1 {p0 : Int32} {i10 : Int32} {i11 : Int32} {a1 : Nat → Int32} {a21 : Nat → Int32} {a22 : Nat → Int32} {a20_763 : Nat → Int32} {z_767 : Int32}  : f_m12_readsRank_b_769 p0 i10 i11 a1 a21 a22 a20_763 z_767 = (f_m12_readsRank_b_776 p0 i10 i11 a1 a21 a22 a20_763 z_767) := by rfl
def f_m12_readsRank_b_762 (p0 : Int32) (i9 : Int32) (i10 : Int32) (i11 : Int32) (a1 : Nat → Int32) (a20 : Nat → Int32) (a21 : Nat → Int32) (a22 : Nat → Int32) : Int32 × Int32 × (Nat → Int32) × (Nat → Int32) × (Nat → Int32) :=
  let a20_763 : Nat → Int32 := upd a20 p0.toNatClampNeg (2 : Int32)
  let z_767 : Int32 := i9 + (1 : Int32)
  (f_m12_readsRank_b_769 p0 i10 i11 a1 a21 a22 a20_763 z_767)
theorem f_m12_readsRank_b_762_s1 {p0 : Int32} {i9 : Int32} {i10 : Int32} {i11 : Int32} {a1 : Nat → Int32} {a20 : Nat → Int32} {a21 : Nat → Int32} {a22 : Nat → Int32} {a20_763 : Nat → Int32} {z_767 : Int32} (e_a20_763 : upd a20 p0.toNatClampNeg (2 : Int32) = a20_763) (e_z_767 : z_767 = i9 + (1 : Int32)) : f_m12_readsRank_b_762 p0 i9 i10 i11 a1 a20 a21 a22 = (f_m12_readsRank_b_769 p0 i10 i11 a1 a21 a22 a20_763 z_767) := by subst e_a20_763; replace e_z_767 := e_z_767.symm; subst e_z_767; rfl
def f_m12_readsRank_b_760 (p0 : Int32) (i9 : Int32) (i10 : Int32) (i11 : Int32) (a1 : Nat → Int32) (a20 : Nat → Int32) (a21 : Nat → Int32) (a22 : Nat → Int32) : Int32 × Int32 × (Nat → Int32) × (Nat → Int32) × (Nat → Int32) :=
  (f_m12_readsRank_b_762 p0 i9 i10 i11 a1 a20 a21 a22)
theorem f_m12_readsRank_b_760_s1 {p0 : Int32} {i9 : Int32} {i10 : Int32} {i11 : Int32} {a1 : Nat → Int32} {a20 : Nat → Int32} {a21 : Nat → Int32} {a22 : Nat → Int32}  : f_m12_readsRank_b_760 p0 i9 i10 i11 a1 a20 a21 a22 = (f_m12_readsRank_b_762 p0 i9 i10 i11 a1 a20 a21 a22) := by rfl
def f_m12_readsRank_b_753 (p0 : Int32) (i9 : Int32) (i10 : Int32) (i11 : Int32) (a1 : Nat → Int32) (a20 : Nat → Int32) (a21 : Nat → Int32) (a22 : Nat → Int32) : Int32 × Int32 × (Nat → Int32) × (Nat → Int32) × (Nat → Int32) :=
  (f_m12_readsRank_b_760 p0 i9 i10 i11 a1 a20 a21 a22)
theorem f_m12_readsRank_b_753_s0 {p0 : Int32} {i9 : Int32} {i10 : Int32} {i11 : Int32} {a1 : Nat → Int32} {a20 : Nat → Int32} {a21 : Nat → Int32} {a22 : Nat → Int32}  : f_m12_readsRank_b_753 p0 i9 i10 i11 a1 a20 a21 a22 = (f_m12_readsRank_b_760 p0 i9 i10 i11 a1 a20 a21 a22) := by rfl
def f_m12_readsRank_b_746 (p0 : Int32) (i9 : Int32) (i10 : Int32) (i11 : Int32) (a1 : Nat → Int32) (a20 : Nat → Int32) (a21 : Nat → Int32) (a22 : Nat → Int32) : Int32 × Int32 × (Nat → Int32) × (Nat → Int32) × (Nat → Int32) :=
  (f_m12_readsRank_b_753 p0 i9 i10 i11 a1 a20 a21 a22)
theorem f_m12_readsRank_b_746_s0 {p0 : Int32} {i9 : Int32} {i10 : Int32} {i11 : Int32} {a1 : Nat → Int32} {a20 : Nat → Int32} {a21 : Nat → Int32} {a22 : Nat → Int32}  : f_m12_readsRank_b_746 p0 i9 i10 i11 a1 a20 a21 a22 = (f_m12_readsRank_b_753 p0 i9 i10 i11 a1 a20 a21 a22) := by rfl
def f_m12_readsRank_b_21 (p0 : Int32) (i9 : Int32) (i10 : Int32) (i11 : Int32) (a1 : Nat → Int32) (a20 : Nat → Int32) (a21 : Nat → Int32) (a22 : Nat → Int32) (z_15 : Int32) : Int32 × Int32 × (Nat → Int32) × (Nat → Int32) × (Nat → Int32) :=
  if z_15.toInt = 0 then (f_m12_readsRank_b_24 p0 i9 i10 i11 a1 a20 a21 a22) else if z_15.toInt = 1 then (f_m12_readsRank_b_385 p0 i9 i10 i11 a1 a20 a21 a22) else (f_m12_readsRank_b_746 p0 i9 i10 i11 a1 a20 a21 a22)
theorem f_m12_readsRank_b_21_c0 {p0 : Int32} {i9 : Int32} {i10 : Int32} {i11 : Int32} {a1 : Nat → Int32} {a20 : Nat → Int32} {a21 : Nat → Int32} {a22 : Nat → Int32} {z_15 : Int32}  (hc : z_15.toInt = 0) : f_m12_readsRank_b_21 p0 i9 i10 i11 a1 a20 a21 a22 z_15 = (f_m12_readsRank_b_24 p0 i9 i10 i11 a1 a20 a21 a22) := by exact if_pos hc
theorem f_m12_readsRank_b_21_c1 {p0 : Int32} {i9 : Int32} {i10 : Int32} {i11 : Int32} {a1 : Nat → Int32} {a20 : Nat → Int32} {a21 : Nat → Int32} {a22 : Nat → Int32} {z_15 : Int32}  (hc : z_15.toInt = 1) : f_m12_readsRank_b_21 p0 i9 i10 i11 a1 a20 a21 a22 z_15 = (f_m12_readsRank_b_385 p0 i9 i10 i11 a1 a20 a21 a22) := by exact (if_neg (by omega)).trans (if_pos hc)
theorem f_m12_readsRank_b_21_c2 {p0 : Int32} {i9 : Int32} {i10 : Int32} {i11 : Int32} {a1 : Nat → Int32} {a20 : Nat → Int32} {a21 : Nat → Int32} {a22 : Nat → Int32} {z_15 : Int32}  (hc : z_15.toInt = 2) : f_m12_readsRank_b_21 p0 i9 i10 i11 a1 a20 a21 a22 z_15 = (f_m12_readsRank_b_746 p0 i9 i10 i11 a1 a20 a21 a22) := by exact (if_neg (by omega)).trans ((if_neg (by omega)).trans (rfl))
def f_m12_readsRank_b_1121 (i9 : Int32) (a20 : Nat → Int32) (a21 : Nat → Int32) (a22 : Nat → Int32) (i11_1110 : Int32) : Int32 × Int32 × (Nat → Int32) × (Nat → Int32) × (Nat → Int32) :=
  (i9, i11_1110, a20, a21, a22)
theorem f_m12_readsRank_b_1121_r {i9 : Int32} {a20 : Nat → Int32} {a21 : Nat → Int32} {a22 : Nat → Int32} {i11_1110 : Int32}  : f_m12_readsRank_b_1121 i9 a20 a21 a22 i11_1110 = (i9, i11_1110, a20, a21, a22) := by rfl
def f_m12_readsRank_b_1106 (i9 : Int32) (i11 : Int32) (a20 : Nat → Int32) (a21 : Nat → Int32) (a22 : Nat → Int32) : Int32 × Int32 × (Nat → Int32) × (Nat → Int32) × (Nat → Int32) :=
  let i11_1110 : Int32 := (F_m12_fails (1 : Int32) i9 i11)
  (f_m12_readsRank_b_1121 i9 a20 a21 a22 i11_1110)
theorem f_m12_readsRank_b_1106_s1 {i9 : Int32} {i11 : Int32} {a20 : Nat → Int32} {a21 : Nat → Int32} {a22 : Nat → Int32} {i11_1110 : Int32} (e_i11_1110 : i11_1110 = (F_m12_fails (1 : Int32) i9 i11)) : f_m12_readsRank_b_1106 i9 i11 a20 a21 a22 = (f_m12_readsRank_b_1121 i9 a20 a21 a22 i11_1110) := by replace e_i11_1110 := e_i11_1110.symm; subst e_i11_1110; rfl
def f_m12_readsRank_b_9 (p0 : Int32) (i9 : Int32) (i10 : Int32) (i11 : Int32) (a1 : Nat → Int32) (a20 : Nat → Int32) (a21 : Nat → Int32) (a22 : Nat → Int32) : Int32 × Int32 × (Nat → Int32) × (Nat → Int32) × (Nat → Int32) :=
  let v_10 : Int32 := (F_m12_here i9 i10 a1)
  let z_15 : Int32 := v_10 - (48 : Int32)
  let v_16 : Int32 := (F_m12_lies z_15 (0 : Int32) (2 : Int32))
  if v_16.toInt ≠ 0 then (f_m12_readsRank_b_21 p0 i9 i10 i11 a1 a20 a21 a22 z_15) else (f_m12_readsRank_b_1106 i9 i11 a20 a21 a22)
theorem f_m12_readsRank_b_9_s0 {p0 : Int32} {i9 : Int32} {i10 : Int32} {i11 : Int32} {a1 : Nat → Int32} {a20 : Nat → Int32} {a21 : Nat → Int32} {a22 : Nat → Int32} {v_10 : Int32} {z_15 : Int32} {v_16 : Int32} (e_v_10 : v_10 = (F_m12_here i9 i10 a1)) (e_z_15 : z_15 = v_10 - (48 : Int32)) (e_v_16 : v_16 = (F_m12_lies z_15 (0 : Int32) (2 : Int32))) (hc : v_16.toInt ≠ 0) : f_m12_readsRank_b_9 p0 i9 i10 i11 a1 a20 a21 a22 = (f_m12_readsRank_b_21 p0 i9 i10 i11 a1 a20 a21 a22 z_15) := by replace e_v_10 := e_v_10.symm; subst e_v_10; replace e_z_15 := e_z_15.symm; subst e_z_15; replace e_v_16 := e_v_16.symm; subst e_v_16; exact if_pos hc
theorem f_m12_readsRank_b_9_s1 {p0 : Int32} {i9 : Int32} {i10 : Int32} {i11 : Int32} {a1 : Nat → Int32} {a20 : Nat → Int32} {a21 : Nat → Int32} {a22 : Nat → Int32} {v_10 : Int32} {z_15 : Int32} {v_16 : Int32} (e_v_10 : v_10 = (F_m12_here i9 i10 a1)) (e_z_15 : z_15 = v_10 - (48 : Int32)) (e_v_16 : v_16 = (F_m12_lies z_15 (0 : Int32) (2 : Int32))) (hc : ¬ (v_16.toInt ≠ 0)) : f_m12_readsRank_b_9 p0 i9 i10 i11 a1 a20 a21 a22 = (f_m12_readsRank_b_1106 i9 i11 a20 a21 a22) := by replace e_v_10 := e_v_10.symm; subst e_v_10; replace e_z_15 := e_z_15.symm; subst e_z_15; replace e_v_16 := e_v_16.symm; subst e_v_16; exact if_neg hc
def f_m12_readsRank_b_2 (p0 : Int32) (i9 : Int32) (i10 : Int32) (i11 : Int32) (a1 : Nat → Int32) (a20 : Nat → Int32) (a21 : Nat → Int32) (a22 : Nat → Int32) : Int32 × Int32 × (Nat → Int32) × (Nat → Int32) × (Nat → Int32) :=
  (f_m12_readsRank_b_9 p0 i9 i10 i11 a1 a20 a21 a22)
theorem f_m12_readsRank_b_2_s1 {p0 : Int32} {i9 : Int32} {i10 : Int32} {i11 : Int32} {a1 : Nat → Int32} {a20 : Nat → Int32} {a21 : Nat → Int32} {a22 : Nat → Int32}  : f_m12_readsRank_b_2 p0 i9 i10 i11 a1 a20 a21 a22 = (f_m12_readsRank_b_9 p0 i9 i10 i11 a1 a20 a21 a22) := by rfl
def F_m12_readsRank (p0 : Int32) (i9 : Int32) (i10 : Int32) (i11 : Int32) (a1 : Nat → Int32) (a20 : Nat → Int32) (a21 : Nat → Int32) (a22 : Nat → Int32) : Int32 × Int32 × (Nat → Int32) × (Nat → Int32) × (Nat → Int32) :=
  (f_m12_readsRank_b_2 p0 i9 i10 i11 a1 a20 a21 a22)
theorem F_m12_readsRank_s1 {p0 : Int32} {i9 : Int32} {i10 : Int32} {i11 : Int32} {a1 : Nat → Int32} {a20 : Nat → Int32} {a21 : Nat → Int32} {a22 : Nat → Int32}  : F_m12_readsRank p0 i9 i10 i11 a1 a20 a21 a22 = (f_m12_readsRank_b_2 p0 i9 i10 i11 a1 a20 a21 a22) := by rfl

