/-! PRINTED, on both sides -/
theorem E_x11_printed {u0 : Int32} {u1 : Int32} {u2 : Int32} {i2 : Int32} {i10 : Int32} {a4 : Nat → Int32} {a5 : Nat → Int32} {a29 : Nat → Int32} {ogn : Nat → Nat → Nat} {ogc : Nat → Nat → Nat → Int32} : F_x11_printed u0 u1 u2 i2 i10 a4 a5 a29 ogn ogc = if (F_x8_fixedAt u1 i10 a29) = 0 then (-1 : Int32) else (if (F_x11_isEdition u0).toInt = 0 then (-1 : Int32) else (if u2.toInt ≥ 0 then f_x11_printed_j24 u0 i2 a4 a5 ogn ogc ((F_x8_fixedAt u1 i10 a29) - 1) 201 u2 (0 : Int32) else (-1 : Int32))) := rfl
theorem E_x11_printed_j57 {u0 : Int32} {i2 : Int32} {a4 : Nat → Int32} {a5 : Nat → Int32} {ogn : Nat → Nat → Nat} {ogc : Nat → Nat → Nat → Int32} {n_6 : Nat} {x_27 : Int32} {self_J_24 : Int32 → Int32 → Int32} {x_39 : Int32} {y_46 : Int32} {y_58 : Int32} {y_60 : Int32} : f_x11_printed_j57 u0 i2 a4 a5 ogn ogc n_6 x_27 self_J_24 x_39 y_46 y_58 y_60 = if x_39.toInt ≥ (y_60 + y_58).toInt then self_J_24 (x_39 - (y_60 + y_58)) (x_27 + Int32.ofInt 1) else (if y_46.toInt = 0 then F_x10_letterIn u0 (F_x7_wordAt x_27 n_6 ogn ogc) x_39 i2 a4 a5 else (F_x11_signOfAdded u0 (F_x7_wordAt x_27 n_6 ogn ogc) x_39 i2 a4 a5)) := rfl
theorem E_x11_printed_j45 {u0 : Int32} {i2 : Int32} {a4 : Nat → Int32} {a5 : Nat → Int32} {ogn : Nat → Nat → Nat} {ogc : Nat → Nat → Nat → Int32} {n_6 : Nat} {x_27 : Int32} {self_J_24 : Int32 → Int32 → Int32} {x_39 : Int32} {y_46 : Int32} : f_x11_printed_j45 u0 i2 a4 a5 ogn ogc n_6 x_27 self_J_24 x_39 y_46 = if y_46.toInt = 0 then f_x11_printed_j57 u0 i2 a4 a5 ogn ogc n_6 x_27 self_J_24 x_39 y_46 (0 : Int32) (F_x10_sizeIn u0 (F_x7_wordAt x_27 n_6 ogn ogc) i2 a5) else (f_x11_printed_j57 u0 i2 a4 a5 ogn ogc n_6 x_27 self_J_24 x_39 y_46 (2 : Int32) (F_x10_sizeIn u0 (F_x7_wordAt x_27 n_6 ogn ogc) i2 a5)) := rfl
theorem E_x11_printed_j38 {u0 : Int32} {i2 : Int32} {a4 : Nat → Int32} {a5 : Nat → Int32} {ogn : Nat → Nat → Nat} {ogc : Nat → Nat → Nat → Int32} {n_6 : Nat} {x_27 : Int32} {self_J_24 : Int32 → Int32 → Int32} {x_39 : Int32} : f_x11_printed_j38 u0 i2 a4 a5 ogn ogc n_6 x_27 self_J_24 x_39 = if (F_x7_turnAt x_27 n_6 ogn ogc).toInt ≠ 8 then f_x11_printed_j45 u0 i2 a4 a5 ogn ogc n_6 x_27 self_J_24 x_39 (0 : Int32) else (f_x11_printed_j45 u0 i2 a4 a5 ogn ogc n_6 x_27 self_J_24 x_39 (1 : Int32)) := rfl
theorem S_x11_printed_j24 {u0 : Int32} {i2 : Int32} {a4 : Nat → Int32} {a5 : Nat → Int32} {ogn : Nat → Nat → Nat} {ogc : Nat → Nat → Nat → Int32} {n_6 : Nat} {n_ : Nat} {x_25} {x_27} : f_x11_printed_j24 u0 i2 a4 a5 ogn ogc n_6 (n_ + 1) x_25 x_27 = if x_27.toInt ≥ (F_x7_slots n_6 ogn).toInt then (-1 : Int32) else (if x_27.toInt ≤ 0 then f_x11_printed_j38 u0 i2 a4 a5 ogn ogc n_6 x_27 (f_x11_printed_j24 u0 i2 a4 a5 ogn ogc n_6 n_) x_25 else (if x_25.toInt ≠ 0 then f_x11_printed_j38 u0 i2 a4 a5 ogn ogc n_6 x_27 (f_x11_printed_j24 u0 i2 a4 a5 ogn ogc n_6 n_) (x_25 + Int32.ofInt (-1)) else (32 : Int32))) := rfl
theorem E_x11_signOfAdded {u0 : Int32} {u1 : Int32} {u2 : Int32} {i2 : Int32} {a4 : Nat → Int32} {a5 : Nat → Int32} : F_x11_signOfAdded u0 u1 u2 i2 a4 a5 = if u2.toInt ≠ 0 then (if u2.toInt ≤ (F_x10_sizeIn u0 u1 i2 a5).toInt then F_x10_letterIn u0 u1 (u2 - (1 : Int32)) i2 a4 a5 else (93 : Int32)) else (91 : Int32) := rfl
theorem E_x10_sizeIn {u0 : Int32} {u1 : Int32} {i2 : Int32} {a5 : Nat → Int32} : F_x10_sizeIn u0 u1 i2 a5 = if (F_x10_has u1 i2).toInt = 0 then (0 : Int32) else (if (F_x11_isEdition u0).toInt = 0 then (0 : Int32) else (a5 (F_x10_formIn u0 u1 a5).toNatClampNeg)) := rfl
theorem E_x10_letterIn {u0 : Int32} {u1 : Int32} {u2 : Int32} {i2 : Int32} {a4 : Nat → Int32} {a5 : Nat → Int32} : F_x10_letterIn u0 u1 u2 i2 a4 a5 = if u2.toInt < 0 then (-1 : Int32) else (if u2.toInt < (F_x10_sizeIn u0 u1 i2 a5).toInt then a4 (((F_x10_formIn u0 u1 a5) * (12 : Int32)) + u2).toNatClampNeg else (-1 : Int32)) := rfl
theorem E_x10_formIn {u0 : Int32} {u1 : Int32} {a5 : Nat → Int32} : F_x10_formIn u0 u1 a5 = if (a5 (((u1 * (5 : Int32)) + (1 : Int32)) + u0).toNatClampNeg).toInt ≠ 0 then ((u1 * (5 : Int32)) + (1 : Int32)) + u0 else (u1 * (5 : Int32)) := rfl
theorem E_x7_slots {nt : Nat} {ogn : Nat → Nat → Nat} : F_x7_slots nt ogn = Int32.ofNat (ogn 4 nt) := rfl
theorem E_m12_printed {p0 : Int32} {p1 : Int32} {p2 : Int32} {i2 : Int32} {i7 : Int32} {i27 : Int32} {a6 : Nat → Int32} {a7 : Nat → Int32} {a34 : Nat → Int32} {a35 : Nat → Int32} {a40 : Nat → Int32} {a41 : Nat → Int32} {a42 : Nat → Int32} {a63 : Nat → Int32} : F_m12_printed p0 p1 p2 i2 i7 i27 a6 a7 a34 a35 a40 a41 a42 a63 = if (F_m12_lies p0 (0 : Int32) (3 : Int32)).toInt = 0 then ((-1 : Int32), i27, a63) else (if (F_m12_isVerse p1 i2).toInt = 0 then ((-1 : Int32), i27, a63) else (if (F_m12_fixedOf p1 i7 a34 a35).toInt ≠ (-1) then f_m12_printed_j30 p0 p2 a6 a7 a40 a41 a42 (F_m12_fixedOf p1 i7 a34 a35) 4001 ((12 : Int32) * (F_m12_fixedOf p1 i7 a34 a35)) (0 : Int32) a63 else ((-1 : Int32), i27, a63))) := rfl
theorem S_m12_printed_j65 {a6 : Nat → Int32} {a7 : Nat → Int32} {a42 : Nat → Int32} {x_31 : Int32} {self_J_30 : Int32 → Int32 → (Nat → Int32) → Int32 × Int32 × (Nat → Int32)} {z_58 : Int32} {n_ : Nat} {x_66} {i27_68} {a63_69} : f_m12_printed_j65 a6 a7 a42 x_31 self_J_30 z_58 (n_ + 1) x_66 i27_68 a63_69 = if x_66.toInt ≥ (a6 z_58.toNatClampNeg).toInt then (if (a42 x_31.toNatClampNeg).toInt ≠ 8 then self_J_30 (x_31 + Int32.ofInt 1) i27_68 a63_69 else (self_J_30 (x_31 + Int32.ofInt 1) (F_m12_prints (93 : Int32) i27_68 a63_69).1 (F_m12_prints (93 : Int32) i27_68 a63_69).2)) else ((f_m12_printed_j65 a6 a7 a42 x_31 self_J_30 z_58 n_) (x_66 + Int32.ofInt 1) (F_m12_prints (a7 (((12 : Int32) * z_58) + x_66).toNatClampNeg) i27_68 a63_69).1 (F_m12_prints (a7 (((12 : Int32) * z_58) + x_66).toNatClampNeg) i27_68 a63_69).2) := rfl
theorem S_m12_printed_j118 {a6 : Nat → Int32} {a7 : Nat → Int32} {a42 : Nat → Int32} {x_31 : Int32} {self_J_30 : Int32 → Int32 → (Nat → Int32) → Int32 × Int32 × (Nat → Int32)} {z_58 : Int32} {n_ : Nat} {x_119} {i27_121} {a63_122} : f_m12_printed_j118 a6 a7 a42 x_31 self_J_30 z_58 (n_ + 1) x_119 i27_121 a63_122 = if x_119.toInt ≥ (a6 z_58.toNatClampNeg).toInt then (if (a42 x_31.toNatClampNeg).toInt ≠ 8 then self_J_30 (x_31 + Int32.ofInt 1) i27_121 a63_122 else (self_J_30 (x_31 + Int32.ofInt 1) (F_m12_prints (93 : Int32) i27_121 a63_122).1 (F_m12_prints (93 : Int32) i27_121 a63_122).2)) else ((f_m12_printed_j118 a6 a7 a42 x_31 self_J_30 z_58 n_) (x_119 + Int32.ofInt 1) (F_m12_prints (a7 (((12 : Int32) * z_58) + x_119).toNatClampNeg) i27_121 a63_122).1 (F_m12_prints (a7 (((12 : Int32) * z_58) + x_119).toNatClampNeg) i27_121 a63_122).2) := rfl
theorem S_m12_printed_j174 {a6 : Nat → Int32} {a7 : Nat → Int32} {a42 : Nat → Int32} {x_31 : Int32} {self_J_30 : Int32 → Int32 → (Nat → Int32) → Int32 × Int32 × (Nat → Int32)} {z_58 : Int32} {n_ : Nat} {x_175} {i27_177} {a63_178} : f_m12_printed_j174 a6 a7 a42 x_31 self_J_30 z_58 (n_ + 1) x_175 i27_177 a63_178 = if x_175.toInt ≥ (a6 z_58.toNatClampNeg).toInt then (if (a42 x_31.toNatClampNeg).toInt ≠ 8 then self_J_30 (x_31 + Int32.ofInt 1) i27_177 a63_178 else (self_J_30 (x_31 + Int32.ofInt 1) (F_m12_prints (93 : Int32) i27_177 a63_178).1 (F_m12_prints (93 : Int32) i27_177 a63_178).2)) else ((f_m12_printed_j174 a6 a7 a42 x_31 self_J_30 z_58 n_) (x_175 + Int32.ofInt 1) (F_m12_prints (a7 (((12 : Int32) * z_58) + x_175).toNatClampNeg) i27_177 a63_178).1 (F_m12_prints (a7 (((12 : Int32) * z_58) + x_175).toNatClampNeg) i27_177 a63_178).2) := rfl
theorem S_m12_printed_j227 {a6 : Nat → Int32} {a7 : Nat → Int32} {a42 : Nat → Int32} {x_31 : Int32} {self_J_30 : Int32 → Int32 → (Nat → Int32) → Int32 × Int32 × (Nat → Int32)} {z_58 : Int32} {n_ : Nat} {x_228} {i27_230} {a63_231} : f_m12_printed_j227 a6 a7 a42 x_31 self_J_30 z_58 (n_ + 1) x_228 i27_230 a63_231 = if x_228.toInt ≥ (a6 z_58.toNatClampNeg).toInt then (if (a42 x_31.toNatClampNeg).toInt ≠ 8 then self_J_30 (x_31 + Int32.ofInt 1) i27_230 a63_231 else (self_J_30 (x_31 + Int32.ofInt 1) (F_m12_prints (93 : Int32) i27_230 a63_231).1 (F_m12_prints (93 : Int32) i27_230 a63_231).2)) else ((f_m12_printed_j227 a6 a7 a42 x_31 self_J_30 z_58 n_) (x_228 + Int32.ofInt 1) (F_m12_prints (a7 (((12 : Int32) * z_58) + x_228).toNatClampNeg) i27_230 a63_231).1 (F_m12_prints (a7 (((12 : Int32) * z_58) + x_228).toNatClampNeg) i27_230 a63_231).2) := rfl
theorem S_m12_printed_j30 {p0 : Int32} {p2 : Int32} {a6 : Nat → Int32} {a7 : Nat → Int32} {a40 : Nat → Int32} {a41 : Nat → Int32} {a42 : Nat → Int32} {v_22 : Int32} {n_ : Nat} {x_31} {i27_33} {a63_34} : f_m12_printed_j30 p0 p2 a6 a7 a40 a41 a42 v_22 (n_ + 1) x_31 i27_33 a63_34 = if x_31.toInt ≥ (((12 : Int32) * v_22) + (a40 v_22.toNatClampNeg)).toInt then (if (F_m12_lies p2 (0 : Int32) (i27_33 - (1 : Int32))).toInt = 0 then ((-1 : Int32), i27_33, a63_34) else ((a63_34 p2.toNatClampNeg), i27_33, a63_34)) else (if x_31.toInt ≤ ((12 : Int32) * v_22).toInt then (if (a42 x_31.toNatClampNeg).toInt ≠ 8 then f_m12_printed_j65 a6 a7 a42 x_31 (f_m12_printed_j30 p0 p2 a6 a7 a40 a41 a42 v_22 n_) (((80 : Int32) * p0) + (a41 x_31.toNatClampNeg)) 13 (0 : Int32) i27_33 a63_34 else (f_m12_printed_j118 a6 a7 a42 x_31 (f_m12_printed_j30 p0 p2 a6 a7 a40 a41 a42 v_22 n_) (((80 : Int32) * p0) + (a41 x_31.toNatClampNeg)) 13 (0 : Int32) (F_m12_prints (91 : Int32) i27_33 a63_34).1 (F_m12_prints (91 : Int32) i27_33 a63_34).2)) else (if (a42 x_31.toNatClampNeg).toInt ≠ 8 then f_m12_printed_j174 a6 a7 a42 x_31 (f_m12_printed_j30 p0 p2 a6 a7 a40 a41 a42 v_22 n_) (((80 : Int32) * p0) + (a41 x_31.toNatClampNeg)) 13 (0 : Int32) (F_m12_prints (32 : Int32) i27_33 a63_34).1 (F_m12_prints (32 : Int32) i27_33 a63_34).2 else (f_m12_printed_j227 a6 a7 a42 x_31 (f_m12_printed_j30 p0 p2 a6 a7 a40 a41 a42 v_22 n_) (((80 : Int32) * p0) + (a41 x_31.toNatClampNeg)) 13 (0 : Int32) (F_m12_prints (91 : Int32) (F_m12_prints (32 : Int32) i27_33 a63_34).1 (F_m12_prints (32 : Int32) i27_33 a63_34).2).1 (F_m12_prints (91 : Int32) (F_m12_prints (32 : Int32) i27_33 a63_34).1 (F_m12_prints (32 : Int32) i27_33 a63_34).2).2))) := rfl
theorem E_m12_prints {p0 : Int32} {i27 : Int32} {a63 : Nat → Int32} : F_m12_prints p0 i27 a63 = ((i27 + (1 : Int32)), (upd a63 i27.toNatClampNeg (vp_nar .byte p0.toInt8.toInt32))) := rfl
/-- words of RENDERINGS are there -/
def WLT (i2 i10 : Int32) (b40 b41 : Nat → Int32) : Prop := ∀ r : Nat, (r : Int) < i10.toInt → ∀ i : Nat, (i : Int) < (b40 r).toInt → (b41 (12 * r + i)).toInt < i2.toInt
theorem c32_ : (32 : Int32).toInt = 32 := by decide
theorem c91_ : (91 : Int32).toInt = 91 := by decide
theorem c93_ : (93 : Int32).toInt = 93 := by decide
theorem c80_ : (80 : Int32).toInt = 80 := by decide
theorem pr_of {c M : Int32} {N : Nat} {buf : Nat → Int32} (hM : M.toInt = (N : Int)) (hN : N < 200) (hc : 0 ≤ c.toInt ∧ c.toInt ≤ 127) : F_m12_prints c M buf = (M + (1 : Int32), upd buf N c) ∧ (M + (1 : Int32)).toInt = ((N + 1 : Nat) : Int) := by
  have e8 : c.toInt8.toInt32 = c := by rw [← vp_nar_byte, nar_b (by omega) (by omega)]
  refine ⟨by rw [E_m12_prints, e8, nar_b (by omega) (by omega), nc hM], ?_⟩
  have := toInt_add hM c1 (by omega) (by omega)
  omega
section PRT
variable {p0 p2 v22 : Int32} {b6 b7 b40 b41 b42 : Nat → Int32}
/-- the four loops over letters are one -/
theorem j118_e {x : Int32} {self : Int32 → Int32 → (Nat → Int32) → Int32 × Int32 × (Nat → Int32)} {z : Int32} : ∀ (n : Nat) (X i : Int32) (a : Nat → Int32), f_m12_printed_j118 b6 b7 b42 x self z n X i a = f_m12_printed_j65 b6 b7 b42 x self z n X i a
  | 0, _, _, _ => rfl
  | n + 1, X, i, a => by
    rw [S_m12_printed_j118, S_m12_printed_j65, j118_e n]
theorem j174_e {x : Int32} {self : Int32 → Int32 → (Nat → Int32) → Int32 × Int32 × (Nat → Int32)} {z : Int32} : ∀ (n : Nat) (X i : Int32) (a : Nat → Int32), f_m12_printed_j174 b6 b7 b42 x self z n X i a = f_m12_printed_j65 b6 b7 b42 x self z n X i a
  | 0, _, _, _ => rfl
  | n + 1, X, i, a => by
    rw [S_m12_printed_j174, S_m12_printed_j65, j174_e n]
theorem j227_e {x : Int32} {self : Int32 → Int32 → (Nat → Int32) → Int32 × Int32 × (Nat → Int32)} {z : Int32} : ∀ (n : Nat) (X i : Int32) (a : Nat → Int32), f_m12_printed_j227 b6 b7 b42 x self z n X i a = f_m12_printed_j65 b6 b7 b42 x self z n X i a
  | 0, _, _, _ => rfl
  | n + 1, X, i, a => by
    rw [S_m12_printed_j227, S_m12_printed_j65, j227_e n]
/-- letters, and ] behind them -/
theorem lt_loop {x z : Int32} {Z n : Nat} {self : Int32 → Int32 → (Nat → Int32) → Int32 × Int32 × (Nat → Int32)} (hz : z.toInt = (Z : Int)) (hZ : Z < 320) (hn : (b6 Z).toInt = (n : Int)) (hn2 : n ≤ 12) (hl : ∀ k, k < n → 97 ≤ (b7 (12 * Z + k)).toInt ∧ (b7 (12 * Z + k)).toInt ≤ 122) : ∀ (m f k N : Nat) (X M : Int32) (buf : Nat → Int32), X.toInt = (k : Int) → k + m = n → m < f → M.toInt = (N : Int) → N + m + 1 < 200 →
    ∃ (M' : Int32) (buf' : Nat → Int32), f_m12_printed_j65 b6 b7 b42 x self z f X M buf = self (x + Int32.ofInt 1) M' buf' ∧ M'.toInt = ((N + m + (if (b42 x.toNatClampNeg).toInt ≠ 8 then 0 else 1) : Nat) : Int) ∧ (∀ j, j < N → buf' j = buf j) ∧ (∀ i, i < m → buf' (N + i) = b7 (12 * Z + (k + i))) ∧ ((b42 x.toNatClampNeg).toInt = 8 → buf' (N + m) = (93 : Int32)) := by
  intro m
  induction m with
  | zero =>
    intro f k N X M buf hX hk hf hM hN
    obtain ⟨f, rfl⟩ : ∃ w, f = w + 1 := ⟨f - 1, by omega⟩
    rw [S_m12_printed_j65, nc hz, if_pos (show X.toInt ≥ (b6 Z).toInt by omega)]
    by_cases w : (b42 x.toNatClampNeg).toInt ≠ 8
    · rw [if_pos w, if_pos w]
      exact ⟨M, buf, rfl, hM, fun _ _ => rfl, fun i hi => absurd hi (Nat.not_lt_zero i), fun q => absurd q w⟩
    · obtain ⟨p1, p3⟩ := pr_of (buf := buf) hM (by omega) (c := (93 : Int32)) (by rw [c93_]; omega)
      rw [if_neg w, if_neg w, p1]
      exact ⟨M + 1, upd buf N (93 : Int32), rfl, p3, fun j hj => upd_n (by omega), fun i hi => absurd hi (Nat.not_lt_zero i), fun _ => upd_s⟩
  | succ m ih =>
    intro f k N X M buf hX hk hf hM hN
    obtain ⟨f, rfl⟩ : ∃ w, f = w + 1 := ⟨f - 1, by omega⟩
    have hz1 : (X + Int32.ofInt 1).toInt = ((k + 1 : Nat) : Int) := by
      have := toInt_add hX co1 (by omega) (by omega)
      omega
    have m3 : ((12 : Int32) * z).toInt = 12 * (Z : Int) := toInt_mul c12 hz rfl (by omega) (by omega)
    have m4 : ((12 : Int32) * z + X).toInt = ((12 * Z + k : Nat) : Int) := by
      have := toInt_add m3 hX (by omega) (by omega)
      omega
    have hlk := hl k (by omega)
    obtain ⟨p1, p3⟩ := pr_of (buf := buf) hM (by omega) (c := b7 (12 * Z + k)) (by omega)
    rw [S_m12_printed_j65, nc hz, if_neg (show ¬ X.toInt ≥ (b6 Z).toInt by omega), nc m4, p1]
    obtain ⟨M', buf', q1, q2, q3, q4, q5⟩ := ih f (k + 1) (N + 1) (X + Int32.ofInt 1) (M + 1) (upd buf N (b7 (12 * Z + k))) hz1 (by omega) (by omega) p3 (by omega)
    refine ⟨M', buf', q1, by rw [q2, show N + 1 + m = N + (m + 1) by omega], fun j hj => by rw [q3 j (by omega), upd_n (by omega)], fun i hi => ?_, fun q => by rw [show N + (m + 1) = N + 1 + m by omega]; exact q5 q⟩
    by_cases e : i = 0
    · rw [e, Nat.add_zero, Nat.add_zero, q3 N (by omega), upd_s]
    · have := q4 (i - 1) (by omega)
      rw [show N + 1 + (i - 1) = N + i by omega, show k + 1 + (i - 1) = k + i by omega] at this
      exact this
end PRT
section PRU
variable {p0 p2 v22 i2 i10 : Int32} {a4 a5 b6 b7 b40 b41 b42 : Nat → Int32} {r E S : Nat} {ogn : Nat → Nat → Nat} {ogc : Nat → Nat → Nat → Int32}
/-- what a RENDERING, an edition are -/
def PRC (p0 v22 i2 : Int32) (a4 a5 b6 b7 b40 b41 b42 : Nat → Int32) (r E S : Nat) (ogn : Nat → Nat → Nat) (ogc : Nat → Nat → Nat → Int32) : Prop :=
  (p0.toInt = (E : Int) ∧ E < 4) ∧ (v22.toInt = (r : Int) ∧ r < 200) ∧ (ogn 4 r = S ∧ 1 ≤ S ∧ S ≤ 12 ∧ (b40 r).toInt = (S : Int)) ∧ (0 ≤ i2.toInt ∧ i2.toInt ≤ 80) ∧ WSP i2 a4 a5 b6 b7 ∧ ∀ i, i < S → ogc 4 r i = b41 (12 * r + i) ∧ ogc 5 r i = b42 (12 * r + i) ∧ (0 ≤ (b41 (12 * r + i)).toInt ∧ (b41 (12 * r + i)).toInt < i2.toInt) ∧ (0 ≤ (b42 (12 * r + i)).toInt ∧ (b42 (12 * r + i)).toInt ≤ 8)
/-- the reference prints one SLOT -/
theorem sl_of (H : PRC p0 v22 i2 a4 a5 b6 b7 b40 b41 b42 r E S ogn ogc) {k N : Nat} {x M : Int32} {buf : Nat → Int32} {f : Nat} (hk : k < S) (hx : x.toInt = ((12 * r + k : Nat) : Int)) (hM : M.toInt = (N : Int)) (hN : N + 15 < 200) : ∃ (w n : Nat) (M' : Int32) (buf' : Nat → Int32),
    (b41 (12 * r + k)).toInt = (w : Int) ∧ (w : Int) < i2.toInt ∧ (b6 (80 * E + w)).toInt = (n : Int) ∧ 1 ≤ n ∧ n ≤ 12 ∧
    f_m12_printed_j30 p0 p2 b6 b7 b40 b41 b42 v22 (f + 1) x M buf = f_m12_printed_j30 p0 p2 b6 b7 b40 b41 b42 v22 f (x + Int32.ofInt 1) M' buf' ∧
    M'.toInt = ((N + (if k = 0 then 0 else 1) + n + (if (b42 (12 * r + k)).toInt ≠ 8 then 0 else 2) : Nat) : Int) ∧ (∀ j, j < N → buf' j = buf j) ∧
    (k ≠ 0 → buf' N = (32 : Int32)) ∧ ((b42 (12 * r + k)).toInt ≠ 8 → ∀ i, i < n → buf' (N + (if k = 0 then 0 else 1) + i) = b7 (12 * (80 * E + w) + i)) ∧
    ((b42 (12 * r + k)).toInt = 8 → buf' (N + (if k = 0 then 0 else 1)) = (91 : Int32) ∧ (∀ i, i < n → buf' (N + (if k = 0 then 0 else 1) + 1 + i) = b7 (12 * (80 * E + w) + i)) ∧ buf' (N + (if k = 0 then 0 else 1) + 1 + n) = (93 : Int32)) := by
  obtain ⟨⟨h1, h2⟩, ⟨h3, h4⟩, ⟨h5, h6, h7, h8⟩, h9, h10, h11⟩ := H
  obtain ⟨s1, s2, s3, s4⟩ := h11 k hk
  obtain ⟨w, hw⟩ : ∃ w : Nat, (b41 (12 * r + k)).toInt = (w : Int) := ⟨(b41 (12 * r + k)).toInt.toNat, by omega⟩
  obtain ⟨g1, g2, g3⟩ := h10.1 E w h2 (by omega)
  obtain ⟨n, hn⟩ : ∃ n : Nat, (b6 (80 * E + w)).toInt = (n : Int) := ⟨(b6 (80 * E + w)).toInt.toNat, by omega⟩
  have m0 : ((12 : Int32) * v22).toInt = 12 * (r : Int) := toInt_mul c12 h3 rfl (by omega) (by omega)
  have mS : ((12 : Int32) * v22 + b40 v22.toNatClampNeg).toInt = 12 * (r : Int) + S := by
    rw [nc h3]
    exact toInt_add m0 h8 (by omega) (by omega)
  have m1 : ((80 : Int32) * p0).toInt = 80 * (E : Int) := toInt_mul c80_ h1 rfl (by omega) (by omega)
  have m2 : ((80 : Int32) * p0 + b41 (12 * r + k)).toInt = ((80 * E + w : Nat) : Int) := by
    have := toInt_add m1 hw (by omega) (by omega)
    omega
  have hl : ∀ i, i < n → 97 ≤ (b7 (12 * (80 * E + w) + i)).toInt ∧ (b7 (12 * (80 * E + w) + i)).toInt ≤ 122 := fun i hi => (g3 i (by omega)).2
  rw [S_m12_printed_j30, if_neg (show ¬ x.toInt ≥ ((12 : Int32) * v22 + b40 v22.toNatClampNeg).toInt by omega), nc hx]
  have en : b42 x.toNatClampNeg = b42 (12 * r + k) := by rw [nc hx]
  have LT := fun (N : Nat) (M : Int32) (buf : Nat → Int32) (hM : M.toInt = (N : Int)) (hN : N + n + 1 < 200) => lt_loop (b42 := b42) (x := x) (self := f_m12_printed_j30 p0 p2 b6 b7 b40 b41 b42 v22 f) m2 (by omega) hn (by omega) hl n 13 0 N (0 : Int32) M buf c0 (by omega) (by omega) hM hN
  simp only [en] at LT
  by_cases k0 : k = 0
  · rw [if_pos (show x.toInt ≤ ((12 : Int32) * v22).toInt by omega)]
    by_cases w8 : (b42 (12 * r + k)).toInt ≠ 8
    · rw [if_pos w8]
      obtain ⟨M', buf', q1, q2, q3, q4, q5⟩ := LT N M buf hM (by omega)
      refine ⟨w, n, M', buf', hw, by omega, hn, by omega, by omega, q1, by rw [q2, if_pos w8, if_pos k0, if_pos w8]; omega, q3, fun q => absurd k0 q, fun _ i hi => ?_, fun q => absurd q w8⟩
      rw [if_pos k0, Nat.add_zero, q4 i hi, Nat.zero_add]
    · obtain ⟨p1, p3⟩ := pr_of (buf := buf) hM (by omega) (c := (91 : Int32)) (by rw [c91_]; omega)
      rw [if_neg w8, p1, j118_e]
      obtain ⟨M', buf', q1, q2, q3, q4, q5⟩ := LT (N + 1) (M + 1) (upd buf N (91 : Int32)) p3 (by omega)
      refine ⟨w, n, M', buf', hw, by omega, hn, by omega, by omega, q1, by rw [q2, if_neg w8, if_pos k0, if_neg w8]; omega, fun j hj => by rw [q3 j (by omega), upd_n (by omega)], fun q => absurd k0 q, fun q => absurd q w8, fun q => ?_⟩
      rw [if_pos k0, Nat.add_zero]
      refine ⟨by rw [q3 N (by omega), upd_s], fun i hi => by rw [q4 i hi, Nat.zero_add], q5 q⟩
  · obtain ⟨p1, p3⟩ := pr_of (buf := buf) hM (by omega) (c := (32 : Int32)) (by rw [c32_]; omega)
    rw [if_neg (show ¬ x.toInt ≤ ((12 : Int32) * v22).toInt by omega), p1]
    by_cases w8 : (b42 (12 * r + k)).toInt ≠ 8
    · rw [if_pos w8, j174_e]
      obtain ⟨M', buf', q1, q2, q3, q4, q5⟩ := LT (N + 1) (M + 1) (upd buf N (32 : Int32)) p3 (by omega)
      refine ⟨w, n, M', buf', hw, by omega, hn, by omega, by omega, q1, by rw [q2, if_pos w8, if_neg k0, if_pos w8], fun j hj => by rw [q3 j (by omega), upd_n (by omega)], fun _ => by rw [q3 N (by omega), upd_s], fun _ i hi => ?_, fun q => absurd q w8⟩
      rw [if_neg k0, q4 i hi, Nat.zero_add]
    · obtain ⟨t1, t3⟩ := pr_of (buf := upd buf N (32 : Int32)) p3 (by omega) (c := (91 : Int32)) (by rw [c91_]; omega)
      rw [if_neg w8, t1, j227_e]
      obtain ⟨M', buf', q1, q2, q3, q4, q5⟩ := LT (N + 1 + 1) (M + 1 + 1) (upd (upd buf N (32 : Int32)) (N + 1) (91 : Int32)) t3 (by omega)
      refine ⟨w, n, M', buf', hw, by omega, hn, by omega, by omega, q1, by rw [q2, if_neg w8, if_neg k0, if_neg w8]; omega, fun j hj => by rw [q3 j (by omega), upd_n (by omega), upd_n (by omega)], fun _ => by rw [q3 N (by omega), upd_n (by omega), upd_s], fun q => absurd q w8, fun q => ?_⟩
      rw [if_neg k0]
      refine ⟨by rw [q3 (N + 1) (by omega), upd_s], fun i hi => by rw [q4 i hi, Nat.zero_add], q5 q⟩
/-- what is printed already stays -/
theorem st_loop (H : PRC p0 v22 i2 a4 a5 b6 b7 b40 b41 b42 r E S ogn ogc) {I : Nat} (hI : p2.toInt = (I : Int)) : ∀ (m f k N : Nat) (x M : Int32) (buf : Nat → Int32), x.toInt = ((12 * r + k : Nat) : Int) → S = k + m → m < f → M.toInt = (N : Int) → N ≤ 15 * k → I < N → (f_m12_printed_j30 p0 p2 b6 b7 b40 b41 b42 v22 f x M buf).1 = buf I := by
  intro m
  induction m with
  | zero =>
    intro f k N x M buf hx hk hf hM hN hlt
    obtain ⟨f, rfl⟩ : ∃ w, f = w + 1 := ⟨f - 1, by omega⟩
    obtain ⟨⟨h1, h2⟩, ⟨h3, h4⟩, ⟨h5, h6, h7, h8⟩, h9, h10, h11⟩ := H
    have m0 : ((12 : Int32) * v22).toInt = 12 * (r : Int) := toInt_mul c12 h3 rfl (by omega) (by omega)
    have mS : ((12 : Int32) * v22 + b40 v22.toNatClampNeg).toInt = 12 * (r : Int) + S := by
      rw [nc h3]
      exact toInt_add m0 h8 (by omega) (by omega)
    have e1 : (M - 1).toInt = (N : Int) - 1 := toInt_sub hM c1 (by omega) (by omega)
    rw [S_m12_printed_j30, if_pos (show x.toInt ≥ ((12 : Int32) * v22 + b40 v22.toNatClampNeg).toInt by omega)]
    rcases mlie (u := p2) c0 e1 with ⟨g1, g⟩ | ⟨g1, g⟩
    · rw [g, if_neg n10, nc hI]
    · exact absurd (show 0 ≤ p2.toInt ∧ p2.toInt ≤ (N : Int) - 1 by omega) g1
  | succ m ih =>
    intro f k N x M buf hx hk hf hM hN hlt
    obtain ⟨f, rfl⟩ : ∃ w, f = w + 1 := ⟨f - 1, by omega⟩
    have hS : S ≤ 12 := H.2.2.1.2.2.1
    have hr : r < 200 := H.2.1.2
    obtain ⟨w, n, M', buf', t1, t2, t3, t4, t5, t6, t7, t8, -⟩ := sl_of (p2 := p2) (buf := buf) (f := f) H (k := k) (by omega) hx hM (by omega)
    have hz : (x + Int32.ofInt 1).toInt = ((12 * r + (k + 1) : Nat) : Int) := by
      have := toInt_add hx co1 (by omega) (by omega)
      omega
    rw [t6, ih f (k + 1) _ (x + Int32.ofInt 1) M' buf' hz (by omega) (by omega) t7 (by split <;> split <;> omega) (by split <;> split <;> omega)]
    exact t8 I hlt
theorem pl_step {pl : Int32} {I N : Nat} (hpl : pl.toInt = (I : Int) - (N : Int)) (hlt : N < I) : (pl + Int32.ofInt (-1)).toInt = ((I - N - 1 : Nat) : Int) := by
  have hb : pl.toInt < 2147483648 := Int32.toInt_lt pl
  have := toInt_add hpl scm1 (by omega) (by omega)
  omega
/-- both sides, SLOT by SLOT -/
theorem pt_loop (H : PRC p0 v22 i2 a4 a5 b6 b7 b40 b41 b42 r E S ogn ogc) {I : Nat} (hI : p2.toInt = (I : Int)) : ∀ (m f g k N : Nat) (x y M pl : Int32) (buf : Nat → Int32), x.toInt = ((12 * r + k : Nat) : Int) → y.toInt = (k : Int) → S = k + m → m < f → m < g → M.toInt = (N : Int) → N ≤ 15 * k → N ≤ I → pl.toInt = (I : Int) - (N : Int) →
    f_x11_printed_j24 p0 i2 a4 a5 ogn ogc r g pl y = (f_m12_printed_j30 p0 p2 b6 b7 b40 b41 b42 v22 f x M buf).1 := by
  intro m
  induction m with
  | zero =>
    intro f g k N x y M pl buf hx hy hk hf hg hM hN hle hpl
    obtain ⟨f, rfl⟩ : ∃ w, f = w + 1 := ⟨f - 1, by omega⟩
    obtain ⟨g, rfl⟩ : ∃ w, g = w + 1 := ⟨g - 1, by omega⟩
    obtain ⟨⟨h1, h2⟩, ⟨h3, h4⟩, ⟨h5, h6, h7, h8⟩, h9, h10, h11⟩ := H
    have m0 : ((12 : Int32) * v22).toInt = 12 * (r : Int) := toInt_mul c12 h3 rfl (by omega) (by omega)
    have mS : ((12 : Int32) * v22 + b40 v22.toNatClampNeg).toInt = 12 * (r : Int) + S := by
      rw [nc h3]
      exact toInt_add m0 h8 (by omega) (by omega)
    have e1 : (M - 1).toInt = (N : Int) - 1 := toInt_sub hM c1 (by omega) (by omega)
    have es : (F_x7_slots r ogn).toInt = (S : Int) := by rw [E_x7_slots, h5]; exact nI_toInt (by omega)
    rw [S_m12_printed_j30, S_x11_printed_j24, if_pos (show x.toInt ≥ ((12 : Int32) * v22 + b40 v22.toNatClampNeg).toInt by omega), if_pos (show y.toInt ≥ (F_x7_slots r ogn).toInt by omega)]
    rcases mlie (u := p2) c0 e1 with ⟨g1, g⟩ | ⟨g1, g⟩
    · omega
    · rw [g, if_pos y00]
  | succ m ih =>
    intro f g k N x y M pl buf hx hy hk hf hg hM hN hle hpl
    obtain ⟨f, rfl⟩ : ∃ w, f = w + 1 := ⟨f - 1, by omega⟩
    obtain ⟨g, rfl⟩ : ∃ w, g = w + 1 := ⟨g - 1, by omega⟩
    have H' := H
    obtain ⟨⟨h1, h2⟩, ⟨h3, h4⟩, ⟨h5, h6, h7, h8⟩, h9, h10, h11⟩ := H'
    obtain ⟨s1, s2, s3, s4⟩ := h11 k (by omega)
    obtain ⟨w, n, M', buf', t1, t2, t3, t4, t5, t6, t7, t8, t9, t10, t11⟩ := sl_of (p2 := p2) (buf := buf) (f := f) H (k := k) (by omega) hx hM (by omega)
    have hz : (x + Int32.ofInt 1).toInt = ((12 * r + (k + 1) : Nat) : Int) := by
      have := toInt_add hx co1 (by omega) (by omega)
      omega
    have hy1 : (y + Int32.ofInt 1).toInt = ((k + 1 : Nat) : Int) := by
      have := toInt_add hy co1 (by omega) (by omega)
      omega
    have es : (F_x7_slots r ogn).toInt = (S : Int) := by rw [E_x7_slots, h5]; exact nI_toInt (by omega)
    have eO : (Int32.ofNat (ogn 4 r)).toInt = (S : Int) := by rw [h5]; exact nI_toInt (by omega)
    have ew : F_x7_wordAt y r ogn ogc = b41 (12 * r + k) := by rw [E_x7_wordAt, if_neg (show ¬ y.toInt < 0 by omega), if_neg (show ¬ y.toInt ≥ (Int32.ofNat (ogn 4 r)).toInt by omega), nc hy, s1]
    have et : F_x7_turnAt y r ogn ogc = b42 (12 * r + k) := by rw [E_x7_turnAt, if_neg (show ¬ y.toInt < 0 by omega), if_neg (show ¬ y.toInt ≥ (Int32.ofNat (ogn 4 r)).toInt by omega), nc hy, s2]
    obtain ⟨g1, g2, g3⟩ := h10.1 E w h2 (by omega)
    -- the word as this edition spells it
    have m5 : (b41 (12 * r + k) * (5 : Int32)).toInt = (w : Int) * 5 := toInt_mul t1 c5 rfl (by omega) (by omega)
    have m6 := toInt_add m5 c1 (by omega) (by omega)
    have m7 : (b41 (12 * r + k) * (5 : Int32) + (1 : Int32) + p0).toInt = ((5 * w + 1 + E : Nat) : Int) := by
      have := toInt_add m6 h1 (by omega) (by omega)
      omega
    have ef : (F_x10_formIn p0 (b41 (12 * r + k)) a5).toInt = (FM a5 E w : Int) := by
      rw [E_x10_formIn, nc m7]
      unfold FM
      by_cases q : (a5 (5 * w + 1 + E)).toInt ≠ 0
      · rw [if_pos q, if_pos q]; exact m7
      · rw [if_neg q, if_neg q]; omega
    have b := FM_le a5 E w h2
    have eh : F_x10_has (b41 (12 * r + k)) i2 = 1 := by
      rcases xhasW (u := b41 (12 * r + k)) (i3 := i2) with ⟨_, q⟩ | ⟨q, _⟩
      · exact q
      · exact absurd s3 q
    have ee : F_x11_isEdition p0 = 1 := by
      rcases xed (u := p0) with ⟨_, q⟩ | ⟨q, _⟩
      · exact q
      · exact absurd (show 0 ≤ p0.toInt ∧ p0.toInt ≤ 3 by omega) q
    have ez : F_x10_sizeIn p0 (b41 (12 * r + k)) i2 a5 = b6 (80 * E + w) := by
      rw [E_x10_sizeIn, eh, ee, if_neg n10, if_neg n10, nc ef, g1]
    have el : ∀ (q : Int32) (i : Nat), q.toInt = (i : Int) → i < n → F_x10_letterIn p0 (b41 (12 * r + k)) q i2 a4 a5 = b7 (12 * (80 * E + w) + i) := by
      intro q i hq hi
      have m8 : (F_x10_formIn p0 (b41 (12 * r + k)) a5 * (12 : Int32)).toInt = (FM a5 E w : Int) * 12 := toInt_mul ef c12 rfl (by omega) (by omega)
      have m9 : (F_x10_formIn p0 (b41 (12 * r + k)) a5 * (12 : Int32) + q).toInt = ((12 * FM a5 E w + i : Nat) : Int) := by
        have := toInt_add m8 hq (by omega) (by omega)
        omega
      rw [E_x10_letterIn, ez, if_neg (show ¬ q.toInt < 0 by omega), if_pos (show q.toInt < (b6 (80 * E + w)).toInt by omega), nc m9]
      exact (g3 i (by omega)).1
    -- behind the blank
    have go : ∀ (q : Int32) (J : Nat), q.toInt = (J : Int) → I = N + (if k = 0 then 0 else 1) + J → f_x11_printed_j38 p0 i2 a4 a5 ogn ogc r y (f_x11_printed_j24 p0 i2 a4 a5 ogn ogc r g) q = (f_m12_printed_j30 p0 p2 b6 b7 b40 b41 b42 v22 (f + 1) x M buf).1 := by
      intro q J hq hJ
      have hqb : q.toInt < 2147483648 := Int32.toInt_lt q
      have fin : ∀ c : Int32, J < n + (if (b42 (12 * r + k)).toInt ≠ 8 then 0 else 2) → buf' I = c → c = (f_m12_printed_j30 p0 p2 b6 b7 b40 b41 b42 v22 (f + 1) x M buf).1 := by
        intro c hc hb
        rw [t6, st_loop H hI m f (k + 1) _ (x + Int32.ofInt 1) M' buf' hz (by omega) (by omega) t7 (by split <;> split <;> omega) (by omega)]
        exact hb.symm
      rw [E_x11_printed_j38, et]
      by_cases w8 : (b42 (12 * r + k)).toInt ≠ 8
      · have e0 : (b6 (80 * E + w) + (0 : Int32)).toInt = (n : Int) := by
          have := toInt_add t3 c0 (by omega) (by omega)
          omega
        rw [if_pos w8] at fin t7
        rw [if_pos w8, E_x11_printed_j45, if_pos c0, E_x11_printed_j57, ew, ez]
        by_cases v : q.toInt ≥ (b6 (80 * E + w) + (0 : Int32)).toInt
        · rw [if_pos v, t6]
          have m9 := toInt_sub hq e0 (by omega) (by omega)
          exact ih f g (k + 1) _ (x + Int32.ofInt 1) (y + Int32.ofInt 1) M' _ buf' hz hy1 (by omega) (by omega) (by omega) t7 (by split <;> omega) (by omega) (by omega)
        · rw [if_neg v, if_pos c0, el q J hq (by omega)]
          exact fin _ (by omega) (by rw [hJ]; exact t10 w8 J (by omega))
      · have two : (2 : Int32).toInt = 2 := by decide
        have e0 : (b6 (80 * E + w) + (2 : Int32)).toInt = (n : Int) + 2 := by
          have := toInt_add t3 two (by omega) (by omega)
          omega
        have w8' : (b42 (12 * r + k)).toInt = 8 := by omega
        obtain ⟨u1, u2, u3⟩ := t11 w8'
        rw [if_neg w8] at fin t7
        rw [if_neg w8, E_x11_printed_j45, if_neg n10, E_x11_printed_j57, ew, ez]
        by_cases v : q.toInt ≥ (b6 (80 * E + w) + (2 : Int32)).toInt
        · rw [if_pos v, t6]
          have m9 := toInt_sub hq e0 (by omega) (by omega)
          exact ih f g (k + 1) _ (x + Int32.ofInt 1) (y + Int32.ofInt 1) M' _ buf' hz hy1 (by omega) (by omega) (by omega) t7 (by split <;> omega) (by omega) (by omega)
        · rw [if_neg v, if_neg n10, E_x11_signOfAdded, ez]
          by_cases j0 : J = 0
          · rw [if_neg (show ¬ q.toInt ≠ 0 by omega)]
            exact fin _ (by omega) (by rw [hJ, j0, Nat.add_zero]; exact u1)
          · rw [if_pos (show q.toInt ≠ 0 by omega)]
            by_cases jn : J ≤ n
            · have m9 : (q - (1 : Int32)).toInt = ((J - 1 : Nat) : Int) := by
                have := toInt_sub hq c1 (by omega) (by omega)
                omega
              rw [if_pos (show q.toInt ≤ (b6 (80 * E + w)).toInt by omega), el _ (J - 1) m9 (by omega)]
              refine fin _ (by omega) ?_
              have := u2 (J - 1) (by omega)
              rw [show N + (if k = 0 then 0 else 1) + 1 + (J - 1) = I by omega] at this
              exact this
            · rw [if_neg (show ¬ q.toInt ≤ (b6 (80 * E + w)).toInt by omega)]
              refine fin _ (by omega) ?_
              rw [show I = N + (if k = 0 then 0 else 1) + 1 + n by omega]
              exact u3
    rw [S_x11_printed_j24, if_neg (show ¬ y.toInt ≥ (F_x7_slots r ogn).toInt by omega)]
    by_cases k0 : k = 0
    · rw [if_pos (show y.toInt ≤ 0 by omega)]
      exact go pl (I - N) (by omega) (by rw [if_pos k0]; omega)
    · rw [if_neg (show ¬ y.toInt ≤ 0 by omega)]
      by_cases p00 : pl.toInt = 0
      · rw [if_neg (fun q => q p00), t6, st_loop H hI m f (k + 1) _ (x + Int32.ofInt 1) M' buf' hz (by omega) (by omega) t7 (by split <;> split <;> omega) (by rw [if_neg k0]; omega), show I = N by omega]
        exact (t9 k0).symm
      · rw [if_pos (show pl.toInt ≠ 0 from p00)]
        have hlt : N < I := Nat.lt_of_le_of_ne hle (fun e => p00 (by rw [hpl, e]; exact Int.sub_self _))
        exact go _ (I - N - 1) (pl_step hpl hlt) (by rw [if_neg k0]; omega)
end PRU
theorem R_printed {u0 u1 u2 i2 i3 i10 i27 : Int32} {a4 a5 a29 b6 b7 b33 b34 b35 b36 b37 b38 b39 b40 b41 b42 b43 b63 : Nat → Int32} {og : Nat → Nat → Int32} {ogn : Nat → Nat → Nat} {ogc : Nat → Nat → Nat → Int32} (h2 : 0 ≤ i2.toInt ∧ i2.toInt ≤ 80) (h3 : 0 ≤ i3.toInt ∧ i3.toInt ≤ 60) (h10 : 0 ≤ i10.toInt ∧ i10.toInt ≤ 200) (hC : RNC i10 og ogn ogc b33 b34 b36 b37 b38 b39 b40 b41 b42) (hS : RNS i3 i10 og b34 b35 b43) (hX : FXD i10 a29 b34 b35) (hW : WSP i2 a4 a5 b6 b7) (hw : WLT i2 i10 b40 b41) :
    F_x11_printed u0 u1 u2 i2 i10 a4 a5 a29 ogn ogc = (F_m12_printed u0 u1 u2 i3 i10 i27 b6 b7 b34 b35 b40 b41 b42 b63).1 := by
  have e3 : (3 : Int32).toInt = 3 := by decide
  have hnone : ∀ V : Nat, u1.toInt = (V : Int) → V < 60 → i3.toInt ≤ (V : Int) → (a29 V).toInt = -1 := by
    intro V hV h60 hge
    rcases hX V h60 with ⟨g1, -⟩ | ⟨q, g1, g2, g3, -⟩
    · exact g1
    · have := (hS.1 q g1).2.2.2.1
      omega
  rw [E_x11_printed, E_m12_printed]
  rcases mver (u := u1) (i2 := i3) h3.1 with ⟨k1, k⟩ | ⟨k1, k⟩
  · obtain ⟨V, hV⟩ : ∃ V : Nat, u1.toInt = (V : Int) := ⟨u1.toInt.toNat, by omega⟩
    have efo : F_m12_fixedOf u1 i10 b34 b35 = a29 V := fo_of hV (by omega) h10 hX
    rw [k, if_neg n10, efo]
    rcases fxa hV (by omega) hX with ⟨f1, f2⟩ | ⟨q, f1, f2, f3, f4, f5⟩
    · rw [f2, if_pos rfl, if_neg (show ¬ (a29 V).toInt ≠ -1 from fun z => z f1)]
      split <;> rfl
    · rw [f5, if_neg (Nat.succ_ne_zero q), Nat.add_sub_cancel, if_pos (show (a29 V).toInt ≠ -1 by omega)]
      rcases xed (u := u0) with ⟨d1, d⟩ | ⟨d1, d⟩
      · rcases mlie (u := u0) c0 e3 with ⟨_, l⟩ | ⟨l1, _⟩
        · rw [d, l, if_neg n10, if_neg n10]
          obtain ⟨E, hE⟩ : ∃ E : Nat, u0.toInt = (E : Int) := ⟨u0.toInt.toNat, by omega⟩
          obtain ⟨-, -, w1, w2, w3, w4⟩ := hC q f1
          have m0 : ((12 : Int32) * a29 V).toInt = ((12 * q + 0 : Nat) : Int) := by
            have := toInt_mul c12 f2 rfl (by omega) (by omega)
            omega
          have H : PRC u0 (a29 V) i2 a4 a5 b6 b7 b40 b41 b42 q E (ogn 4 q) ogn ogc := ⟨⟨hE, by omega⟩, ⟨f2, by omega⟩, ⟨rfl, w2, w3, w1⟩, h2, hW, fun i hi => ⟨(w4 i hi).1, (w4 i hi).2.1, ⟨(w4 i hi).2.2.1.1, hw q f1 i (by omega)⟩, (w4 i hi).2.2.2⟩⟩
          by_cases z : u2.toInt ≥ 0
          · rw [if_pos z]
            obtain ⟨I, hI⟩ : ∃ I : Nat, u2.toInt = (I : Int) := ⟨u2.toInt.toNat, by omega⟩
            exact pt_loop H hI (ogn 4 q) 4001 201 0 0 _ (0 : Int32) (0 : Int32) u2 b63 m0 c0 (by omega) (by omega) (by omega) c0 (Nat.zero_le _) (Nat.zero_le _) (by omega)
          · rw [if_neg z]
            -- a place below 0
            have neg : ∀ (m f k N : Nat) (x M : Int32) (buf : Nat → Int32), x.toInt = ((12 * q + k : Nat) : Int) → ogn 4 q = k + m → m < f → M.toInt = (N : Int) → N ≤ 15 * k → (f_m12_printed_j30 u0 u2 b6 b7 b40 b41 b42 (a29 V) f x M buf).1 = (-1 : Int32) := by
              intro m
              induction m with
              | zero =>
                intro f k N x M buf hx hk hf hM hN
                obtain ⟨f, rfl⟩ : ∃ w, f = w + 1 := ⟨f - 1, by omega⟩
                have mm : ((12 : Int32) * a29 V).toInt = 12 * (q : Int) := toInt_mul c12 f2 rfl (by omega) (by omega)
                have mS : ((12 : Int32) * a29 V + b40 (a29 V).toNatClampNeg).toInt = 12 * (q : Int) + (ogn 4 q : Int) := by
                  rw [nc f2]
                  exact toInt_add mm w1 (by omega) (by omega)
                have e1 : (M - 1).toInt = (N : Int) - 1 := toInt_sub hM c1 (by omega) (by omega)
                rw [S_m12_printed_j30, if_pos (show x.toInt ≥ ((12 : Int32) * a29 V + b40 (a29 V).toNatClampNeg).toInt by omega)]
                rcases mlie (u := u2) c0 e1 with ⟨g1, g⟩ | ⟨g1, g⟩
                · omega
                · rw [g, if_pos y00]
              | succ m ih =>
                intro f k N x M buf hx hk hf hM hN
                obtain ⟨f, rfl⟩ : ∃ w, f = w + 1 := ⟨f - 1, by omega⟩
                obtain ⟨w, n, M', buf', t1, t2, t3, t4, t5, t6, t7, t8, -⟩ := sl_of (p2 := u2) (buf := buf) (f := f) H (k := k) (by omega) hx hM (by omega)
                have hz : (x + Int32.ofInt 1).toInt = ((12 * q + (k + 1) : Nat) : Int) := by
                  have := toInt_add hx co1 (by omega) (by omega)
                  omega
                rw [t6]
                exact ih f (k + 1) _ (x + Int32.ofInt 1) M' buf' hz (by omega) (by omega) t7 (by split <;> split <;> omega)
            exact (neg (ogn 4 q) 4001 0 0 _ (0 : Int32) b63 m0 (by omega) (by omega) c0 (Nat.zero_le _)).symm
        · exact absurd d1 l1
      · rcases mlie (u := u0) c0 e3 with ⟨l1, _⟩ | ⟨_, l⟩
        · exact absurd l1 d1
        · rw [d, l, if_pos y00, if_pos y00]
  · have fa : F_x8_fixedAt u1 i10 a29 = 0 := by
      rw [E_x8_fixedAt, E_x8_fixedNumber]
      have no : F_x8_at (-1 : Int32) i10 = 0 := by
        rcases xat (u := (-1 : Int32)) (i10 := i10) with ⟨a1, a⟩ | ⟨r, a1, a2, a⟩
        · exact a
        · have := sm1; omega
      by_cases w : u1.toInt < 0
      · rw [if_pos w, no, if_pos rfl]
      · rw [if_neg w]
        by_cases w2 : u1.toInt ≥ 60
        · rw [if_pos w2, no, if_pos rfl]
        · rw [if_neg w2]
          obtain ⟨V, hV⟩ : ∃ V : Nat, u1.toInt = (V : Int) := ⟨u1.toInt.toNat, by omega⟩
          have z := hnone V hV (by omega) (by omega)
          rw [nc hV]
          rcases xat (u := a29 V) (i10 := i10) with ⟨a1, a⟩ | ⟨r, a1, a2, a⟩
          · rw [a, if_pos rfl]
          · omega
    rw [fa, if_pos rfl, k, if_pos y00]
    split <;> rfl
