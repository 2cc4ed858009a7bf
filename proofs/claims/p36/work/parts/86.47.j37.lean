/-! READER: days by a row of companies, on both sides -/
theorem E_x11_judge {u0 : Int32} {i3 : Int32} {i5 : Int32} {i6 : Int32} {a7 : Nat → Int32} {a13 : Nat → Int32} {a14 : Nat → Int32} {a29 : Nat → Int32} {a51 : Nat → Int32} {a52 : Nat → Int32} {a53 : Nat → Int32} : F_x11_judge u0 i3 i5 i6 a7 a13 a14 a29 a51 a52 a53 = ((F_x5_daysOf u0 i3 i5 i6 a7 a13 a14 a29 a51 a52 a53).1, (F_x5_daysOf u0 i3 i5 i6 a7 a13 a14 a29 a51 a52 a53).2.1, (F_x5_daysOf u0 i3 i5 i6 a7 a13 a14 a29 a51 a52 a53).2.2.1, (F_x5_daysOf u0 i3 i5 i6 a7 a13 a14 a29 a51 a52 a53).2.2.2.1, (F_x5_daysOf u0 i3 i5 i6 a7 a13 a14 a29 a51 a52 a53).2.2.2.2) := rfl
theorem E_x5_daysOf {u0 : Int32} {i3 : Int32} {i5 : Int32} {i6 : Int32} {a7 : Nat → Int32} {a13 : Nat → Int32} {a14 : Nat → Int32} {a29 : Nat → Int32} {a51 : Nat → Int32} {a52 : Nat → Int32} {a53 : Nat → Int32} : F_x5_daysOf u0 i3 i5 i6 a7 a13 a14 a29 a51 a52 a53 = f_x5_daysOf_j17 i6 a13 a14 (F_x5_gatherBooks i3 a7 a29 a51 a52 a53).1 (F_x5_gatherBooks i3 a7 a29 a51 a52 a53).2.1 (F_x5_gatherBooks i3 a7 a29 a51 a52 a53).2.2.1 7 (F_x5_daysOfCentre i5 (F_x5_gatherBooks i3 a7 a29 a51 a52 a53).1 (F_x5_gatherBooks i3 a7 a29 a51 a52 a53).2.1 (F_x5_gatherBooks i3 a7 a29 a51 a52 a53).2.2.1) u0 (0 : Int32) (F_x5_gatherBooks i3 a7 a29 a51 a52 a53).2.2.2 := rfl
theorem S_x5_daysOf_j17 {i6 : Int32} {a13 : Nat → Int32} {a14 : Nat → Int32} {i33_4 : Int32} {a51_5 : Nat → Int32} {a52_6 : Nat → Int32} {n_ : Nat} {x_18} {x_19} {x_20} {a53_22} : f_x5_daysOf_j17 i6 a13 a14 i33_4 a51_5 a52_6 (n_ + 1) x_18 x_19 x_20 a53_22 = if x_20.toInt ≥ i33_4.toInt then (if x_19.toInt ≠ 0 then ((-1 : Int32), i33_4, a51_5, a52_6, a53_22) else (x_18, i33_4, a51_5, a52_6, a53_22)) else (if x_18.toInt = (-1) then ((-1 : Int32), i33_4, a51_5, a52_6, a53_22) else (if (F_x5_mayHave (x_19 - x_19 / (6 : Int32) * (6 : Int32)) (a52_6 x_20.toNatClampNeg) i6 a13 a14).toInt ≠ 0 then (f_x5_daysOf_j17 i6 a13 a14 i33_4 a51_5 a52_6 n_) (maxI x_18 (F_x5_through ((upd a53_22 (x_19 - x_19 / (6 : Int32) * (6 : Int32)).toNatClampNeg ((a53_22 (x_19 - x_19 / (6 : Int32) * (6 : Int32)).toNatClampNeg) + (a51_5 (a52_6 x_20.toNatClampNeg).toNatClampNeg))) (x_19 - x_19 / (6 : Int32) * (6 : Int32)).toNatClampNeg) (F_x4_rateOf (x_19 - x_19 / (6 : Int32) * (6 : Int32)) i6 a14))) (x_19 / (6 : Int32)) (x_20 + Int32.ofInt 1) (upd a53_22 (x_19 - x_19 / (6 : Int32) * (6 : Int32)).toNatClampNeg ((a53_22 (x_19 - x_19 / (6 : Int32) * (6 : Int32)).toNatClampNeg) + (a51_5 (a52_6 x_20.toNatClampNeg).toNatClampNeg))) else ((-1 : Int32), i33_4, a51_5, a52_6, a53_22))) := rfl
theorem E_x5_gatherBooks {i3 : Int32} {a7 : Nat → Int32} {a29 : Nat → Int32} {a51 : Nat → Int32} {a52 : Nat → Int32} {a53 : Nat → Int32} : F_x5_gatherBooks i3 a7 a29 a51 a52 a53 = f_x5_gatherBooks_j1 i3 a7 a29 a52 a53 9 (0 : Int32) a51 := rfl
theorem S_x5_gatherBooks_j1 {i3 : Int32} {a7 : Nat → Int32} {a29 : Nat → Int32} {a52 : Nat → Int32} {a53 : Nat → Int32} {n_ : Nat} {x_2} {a51_4} : f_x5_gatherBooks_j1 i3 a7 a29 a52 a53 (n_ + 1) x_2 a51_4 = if x_2.toInt ≥ 8 then f_x5_gatherBooks_j7 i3 a7 a29 a52 a53 61 (0 : Int32) a51_4 else ((f_x5_gatherBooks_j1 i3 a7 a29 a52 a53 n_) (x_2 + Int32.ofInt 1) (upd a51_4 x_2.toNatClampNeg (0 : Int32))) := rfl
theorem S_x5_gatherBooks_j7 {i3 : Int32} {a7 : Nat → Int32} {a29 : Nat → Int32} {a52 : Nat → Int32} {a53 : Nat → Int32} {n_ : Nat} {x_8} {a51_10} : f_x5_gatherBooks_j7 i3 a7 a29 a52 a53 (n_ + 1) x_8 a51_10 = if x_8.toInt ≥ (F_x9_size i3).toInt then f_x5_gatherBooks_j18 a53 a51_10 9 (0 : Int32) (0 : Int32) a52 else (if (F_x9_bookOf x_8 i3 a7).toInt < 0 then (f_x5_gatherBooks_j7 i3 a7 a29 a52 a53 n_) (x_8 + Int32.ofInt 1) a51_10 else (if (F_x9_bookOf x_8 i3 a7).toInt ≥ 8 then (f_x5_gatherBooks_j7 i3 a7 a29 a52 a53 n_) (x_8 + Int32.ofInt 1) a51_10 else (if (F_x8_fixedNumber x_8 a29).toInt ≠ (-1) then (f_x5_gatherBooks_j7 i3 a7 a29 a52 a53 n_) (x_8 + Int32.ofInt 1) a51_10 else ((f_x5_gatherBooks_j7 i3 a7 a29 a52 a53 n_) (x_8 + Int32.ofInt 1) (upd a51_10 (F_x9_bookOf x_8 i3 a7).toNatClampNeg ((a51_10 (F_x9_bookOf x_8 i3 a7).toNatClampNeg) + (1 : Int32))))))) := rfl
theorem S_x5_gatherBooks_j18 {a53 : Nat → Int32} {a51_10 : Nat → Int32} {n_ : Nat} {x_19} {i33_21} {a52_22} : f_x5_gatherBooks_j18 a53 a51_10 (n_ + 1) x_19 i33_21 a52_22 = if x_19.toInt ≥ 8 then f_x5_gatherBooks_j26 a51_10 i33_21 a52_22 7 (0 : Int32) a53 else (if i33_21.toInt ≥ 6 then f_x5_gatherBooks_j38 a51_10 i33_21 a52_22 7 (0 : Int32) a53 else (if (a51_10 x_19.toNatClampNeg).toInt ≤ 0 then (f_x5_gatherBooks_j18 a53 a51_10 n_) (x_19 + Int32.ofInt 1) i33_21 a52_22 else ((f_x5_gatherBooks_j18 a53 a51_10 n_) (x_19 + Int32.ofInt 1) (i33_21 + (1 : Int32)) (upd a52_22 i33_21.toNatClampNeg x_19)))) := rfl
theorem S_x5_gatherBooks_j26 {a51_10 : Nat → Int32} {i33_21 : Int32} {a52_22 : Nat → Int32} {n_ : Nat} {x_27} {a53_29} : f_x5_gatherBooks_j26 a51_10 i33_21 a52_22 (n_ + 1) x_27 a53_29 = if x_27.toInt ≥ 6 then (i33_21, a51_10, a52_22, a53_29) else ((f_x5_gatherBooks_j26 a51_10 i33_21 a52_22 n_) (x_27 + Int32.ofInt 1) (upd a53_29 x_27.toNatClampNeg (0 : Int32))) := rfl
theorem S_x5_gatherBooks_j38 {a51_10 : Nat → Int32} {i33_21 : Int32} {a52_22 : Nat → Int32} {n_ : Nat} {x_39} {a53_41} : f_x5_gatherBooks_j38 a51_10 i33_21 a52_22 (n_ + 1) x_39 a53_41 = if x_39.toInt ≥ 6 then (i33_21, a51_10, a52_22, a53_41) else ((f_x5_gatherBooks_j38 a51_10 i33_21 a52_22 n_) (x_39 + Int32.ofInt 1) (upd a53_41 x_39.toNatClampNeg (0 : Int32))) := rfl
theorem E_x5_daysOfCentre {i5 : Int32} {i33 : Int32} {a51 : Nat → Int32} {a52 : Nat → Int32} : F_x5_daysOfCentre i5 i33 a51 a52 = f_x5_daysOfCentre_j1 i5 i33 a51 a52 7 (0 : Int32) (0 : Int32) := rfl
theorem S_x5_daysOfCentre_j1 {i5 : Int32} {i33 : Int32} {a51 : Nat → Int32} {a52 : Nat → Int32} {n_ : Nat} {x_2} {x_3} : f_x5_daysOfCentre_j1 i5 i33 a51 a52 (n_ + 1) x_2 x_3 = if x_3.toInt ≥ i33.toInt then (if x_2.toInt ≠ 0 then (if (F_x4_centreRate i5).toInt ≠ 0 then F_x5_through x_2 (F_x4_centreRate i5) else (-1 : Int32)) else (0 : Int32)) else ((f_x5_daysOfCentre_j1 i5 i33 a51 a52 n_) (x_2 + (a51 (a52 x_3.toNatClampNeg).toNatClampNeg)) (x_3 + Int32.ofInt 1)) := rfl
theorem E_x5_through {u0 : Int32} {u1 : Int32} : F_x5_through u0 u1 = if u1.toInt > 0 then ((u0 + u1) - (1 : Int32)) / u1 else (0 : Int32) := rfl
theorem E_x5_mayHave {u0 : Int32} {u1 : Int32} {i6 : Int32} {a13 : Nat → Int32} {a14 : Nat → Int32} : F_x5_mayHave u0 u1 i6 a13 a14 = if (F_x4_hasBook u0 u1 i6 a13).toInt = 0 then (0 : Int32) else (if (F_x4_rateOf u0 i6 a14).toInt ≤ 0 then (0 : Int32) else (1 : Int32)) := rfl
theorem E_x4_rateOf {u0 : Int32} {i6 : Int32} {a14 : Nat → Int32} : F_x4_rateOf u0 i6 a14 = if (F_x4_hasCompany u0 i6).toInt = 0 then (0 : Int32) else (a14 u0.toNatClampNeg) := rfl
theorem E_x4_centreRate {i5 : Int32} : F_x4_centreRate i5 = i5 := rfl
theorem E_m12_judge {p0 : Int32} {i2 : Int32} {i4 : Int32} {i7 : Int32} {i8 : Int32} {i28 : Int32} {i29 : Int32} {a2 : Nat → Int32} {a8 : Nat → Int32} {a9 : Nat → Int32} {a34 : Nat → Int32} {a35 : Nat → Int32} {a64 : Nat → Int32} {a65 : Nat → Int32} {a66 : Nat → Int32} : F_m12_judge p0 i2 i4 i7 i8 i28 i29 a2 a8 a9 a34 a35 a64 a65 a66 = if p0.toInt ≥ 0 then ((F_m12_daysBy p0 i4 i8 (F_m12_lists i2 i7 a2 a34 a35 a64 a65).1 (F_m12_lists i2 i7 a2 a34 a35 a64 a65).2.1 a8 a9 (F_m12_lists i2 i7 a2 a34 a35 a64 a65).2.2.1 (F_m12_lists i2 i7 a2 a34 a35 a64 a65).2.2.2 a66).1, (F_m12_lists i2 i7 a2 a34 a35 a64 a65).1, (F_m12_lists i2 i7 a2 a34 a35 a64 a65).2.1, (F_m12_lists i2 i7 a2 a34 a35 a64 a65).2.2.1, (F_m12_lists i2 i7 a2 a34 a35 a64 a65).2.2.2, (F_m12_daysBy p0 i4 i8 (F_m12_lists i2 i7 a2 a34 a35 a64 a65).1 (F_m12_lists i2 i7 a2 a34 a35 a64 a65).2.1 a8 a9 (F_m12_lists i2 i7 a2 a34 a35 a64 a65).2.2.1 (F_m12_lists i2 i7 a2 a34 a35 a64 a65).2.2.2 a66).2) else ((-1 : Int32), i28, i29, a64, a65, a66) := rfl
theorem E_m12_lists {i2 : Int32} {i7 : Int32} {a2 : Nat → Int32} {a34 : Nat → Int32} {a35 : Nat → Int32} {a64 : Nat → Int32} {a65 : Nat → Int32} : F_m12_lists i2 i7 a2 a34 a35 a64 a65 = f_m12_lists_j1 i2 i7 a2 a34 a35 9 (0 : Int32) (0 : Int32) (0 : Int32) a64 a65 := rfl
theorem S_m12_lists_j15 {i2 : Int32} {i7 : Int32} {a2 : Nat → Int32} {a34 : Nat → Int32} {a35 : Nat → Int32} {x_2 : Int32} {i28_4 : Int32} {i29_5 : Int32} {a64_6 : Nat → Int32} {a65_7 : Nat → Int32} {self_J_1 : Int32 → Int32 → Int32 → (Nat → Int32) → (Nat → Int32) → Int32 × Int32 × (Nat → Int32) × (Nat → Int32)} {n_ : Nat} {x_16} {x_17} : f_m12_lists_j15 i2 i7 a2 a34 a35 x_2 i28_4 i29_5 a64_6 a65_7 self_J_1 (n_ + 1) x_16 x_17 = if x_17.toInt ≥ i2.toInt then (if x_16.toInt ≠ 0 then self_J_1 (x_2 + Int32.ofInt 1) (i28_4 + (1 : Int32)) (i29_5 + x_16) (upd a64_6 i28_4.toNatClampNeg x_2) (upd a65_7 i28_4.toNatClampNeg x_16) else (self_J_1 (x_2 + Int32.ofInt 1) i28_4 i29_5 a64_6 a65_7)) else (if (a2 x_17.toNatClampNeg).toInt ≠ x_2.toInt then (f_m12_lists_j15 i2 i7 a2 a34 a35 x_2 i28_4 i29_5 a64_6 a65_7 self_J_1 n_) (x_16 + (0 : Int32)) (x_17 + Int32.ofInt 1) else (if (F_m12_fixedOf x_17 i7 a34 a35).toInt ≠ (-1) then (f_m12_lists_j15 i2 i7 a2 a34 a35 x_2 i28_4 i29_5 a64_6 a65_7 self_J_1 n_) (x_16 + (0 : Int32)) (x_17 + Int32.ofInt 1) else ((f_m12_lists_j15 i2 i7 a2 a34 a35 x_2 i28_4 i29_5 a64_6 a65_7 self_J_1 n_) (x_16 + (1 : Int32)) (x_17 + Int32.ofInt 1)))) := rfl
theorem S_m12_lists_j1 {i2 : Int32} {i7 : Int32} {a2 : Nat → Int32} {a34 : Nat → Int32} {a35 : Nat → Int32} {n_ : Nat} {x_2} {i28_4} {i29_5} {a64_6} {a65_7} : f_m12_lists_j1 i2 i7 a2 a34 a35 (n_ + 1) x_2 i28_4 i29_5 a64_6 a65_7 = if x_2.toInt ≥ 8 then (i28_4, i29_5, a64_6, a65_7) else (if i28_4.toInt ≥ 6 then (i28_4, i29_5, a64_6, a65_7) else (f_m12_lists_j15 i2 i7 a2 a34 a35 x_2 i28_4 i29_5 a64_6 a65_7 (f_m12_lists_j1 i2 i7 a2 a34 a35 n_) 61 (0 : Int32) (0 : Int32))) := rfl
theorem S_m12_daysBy_j27 {i4 : Int32} {a9 : Nat → Int32} {a66_17 : Nat → Int32} {n_ : Nat} {x_28} {x_29} : f_m12_daysBy_j27 i4 a9 a66_17 (n_ + 1) x_28 x_29 = if x_29.toInt ≥ i4.toInt then (x_28, a66_17) else (if (a66_17 x_29.toNatClampNeg).toInt ≤ 0 then (f_m12_daysBy_j27 i4 a9 a66_17 n_) x_28 (x_29 + Int32.ofInt 1) else (if (F_m12_up (a66_17 x_29.toNatClampNeg) (a9 x_29.toNatClampNeg)).toInt ≤ x_28.toInt then (f_m12_daysBy_j27 i4 a9 a66_17 n_) x_28 (x_29 + Int32.ofInt 1) else ((f_m12_daysBy_j27 i4 a9 a66_17 n_) (F_m12_up (a66_17 x_29.toNatClampNeg) (a9 x_29.toNatClampNeg)) (x_29 + Int32.ofInt 1)))) := rfl
theorem S_m12_daysBy_j12 {i4 : Int32} {i8 : Int32} {i28 : Int32} {i29 : Int32} {a8 : Nat → Int32} {a9 : Nat → Int32} {a64 : Nat → Int32} {a65 : Nat → Int32} {n_ : Nat} {x_13} {x_15} {a66_17} : f_m12_daysBy_j12 i4 i8 i28 i29 a8 a9 a64 a65 (n_ + 1) x_13 x_15 a66_17 = if x_15.toInt ≥ i28.toInt then (if x_13.toInt ≤ 0 then f_m12_daysBy_j27 i4 a9 a66_17 7 (F_m12_up i29 i8) (0 : Int32) else ((-1 : Int32), a66_17)) else (if (x_13 - x_13 / (6 : Int32) * (6 : Int32)).toInt ≥ i4.toInt then ((-1 : Int32), a66_17) else (if (a9 (x_13 - x_13 / (6 : Int32) * (6 : Int32)).toNatClampNeg).toInt = 0 then ((-1 : Int32), a66_17) else (if (F_m12_has (a8 (x_13 - x_13 / (6 : Int32) * (6 : Int32)).toNatClampNeg) (a64 x_15.toNatClampNeg)).toInt ≠ 0 then (f_m12_daysBy_j12 i4 i8 i28 i29 a8 a9 a64 a65 n_) (x_13 / (6 : Int32)) (x_15 + Int32.ofInt 1) (upd a66_17 (x_13 - x_13 / (6 : Int32) * (6 : Int32)).toNatClampNeg ((a66_17 (x_13 - x_13 / (6 : Int32) * (6 : Int32)).toNatClampNeg) + (a65 x_15.toNatClampNeg))) else ((-1 : Int32), a66_17)))) := rfl
theorem S_m12_daysBy_j5 {p0 : Int32} {i4 : Int32} {i8 : Int32} {i28 : Int32} {i29 : Int32} {a8 : Nat → Int32} {a9 : Nat → Int32} {a64 : Nat → Int32} {a65 : Nat → Int32} {n_ : Nat} {x_6} {a66_8} : f_m12_daysBy_j5 p0 i4 i8 i28 i29 a8 a9 a64 a65 (n_ + 1) x_6 a66_8 = if x_6.toInt ≥ 6 then f_m12_daysBy_j12 i4 i8 i28 i29 a8 a9 a64 a65 7 p0 (0 : Int32) a66_8 else ((f_m12_daysBy_j5 p0 i4 i8 i28 i29 a8 a9 a64 a65 n_) (x_6 + Int32.ofInt 1) (upd a66_8 x_6.toNatClampNeg (0 : Int32))) := rfl
theorem E_m12_daysBy {p0 : Int32} {i4 : Int32} {i8 : Int32} {i28 : Int32} {i29 : Int32} {a8 : Nat → Int32} {a9 : Nat → Int32} {a64 : Nat → Int32} {a65 : Nat → Int32} {a66 : Nat → Int32} : F_m12_daysBy p0 i4 i8 i28 i29 a8 a9 a64 a65 a66 = if i28.toInt ≠ 0 then (if i8.toInt ≠ 0 then f_m12_daysBy_j5 p0 i4 i8 i28 i29 a8 a9 a64 a65 7 (0 : Int32) a66 else ((-1 : Int32), a66)) else (if p0.toInt ≠ 0 then ((-1 : Int32), a66) else ((0 : Int32), a66)) := rfl
theorem E_m12_up {p0 : Int32} {p1 : Int32} : F_m12_up p0 p1 = ((p0 + p1) - (1 : Int32)) / p1 := rfl
theorem c6_ : (6 : Int32).toInt = 6 := by decide
theorem c8_ : (8 : Int32).toInt = 8 := by decide
/-- rates alike -/
def RRT (i5 i6 j8 : Int32) (a14 b9 : Nat → Int32) : Prop := i5 = j8 ∧ (0 ≤ i5.toInt ∧ i5.toInt ≤ 99) ∧ RTS i6 a14 b9
/-- how many verses of a book are open -/
def ob (a29 b2 : Nat → Int32) (b : Nat) : Nat → Nat
  | 0 => 0
  | X + 1 => ob a29 b2 b X + (if (b2 X).toInt = (b : Int) ∧ (a29 X).toInt = -1 then 1 else 0)
theorem ob_le (a29 b2 : Nat → Int32) (b : Nat) : ∀ X, ob a29 b2 b X ≤ X
  | 0 => Nat.le_refl 0
  | X + 1 => by
    have := ob_le a29 b2 b X
    show ob a29 b2 b X + (if (b2 X).toInt = (b : Int) ∧ (a29 X).toInt = -1 then 1 else 0) ≤ X + 1
    split <;> omega
def sm (f : Nat → Int32) : Nat → Int
  | 0 => 0
  | k + 1 => sm f k + (f k).toInt
theorem sm_congr {f g : Nat → Int32} : ∀ n, (∀ k, k < n → f k = g k) → sm f n = sm g n
  | 0, _ => rfl
  | n + 1, h => by
    show sm f n + (f n).toInt = sm g n + (g n).toInt
    rw [sm_congr n (fun k hk => h k (by omega)), h n (by omega)]
theorem sm_pos {f : Nat → Int32} : ∀ n, (∀ k, k < n → 0 < (f k).toInt ∧ (f k).toInt ≤ 60) → (n : Int) ≤ sm f n ∧ sm f n ≤ 60 * (n : Int)
  | 0, _ => ⟨Int.le_refl _, Int.le_refl _⟩
  | n + 1, h => by
    have h1 := sm_pos n (fun k hk => h k (by omega))
    have h2 := h n (by omega)
    show ((n + 1 : Nat) : Int) ≤ sm f n + (f n).toInt ∧ sm f n + (f n).toInt ≤ 60 * ((n + 1 : Nat) : Int)
    omega
section GATHER
variable {i3 i10 : Int32} {a7 a29 b2 b34 b35 : Nat → Int32}
/-- the reference counts one book -/
theorem lb_loop37 {B : Nat} {xB n s : Int32} {C64 C65 : Nat → Int32} {self : Int32 → Int32 → Int32 → (Nat → Int32) → (Nat → Int32) → Int32 × Int32 × (Nat → Int32) × (Nat → Int32)} (h10 : 0 ≤ i10.toInt ∧ i10.toInt ≤ 200) (hX : FXD i10 a29 b34 b35) (hB : xB.toInt = (B : Int)) (h60 : i3.toInt ≤ 60) : ∀ (m f V : Nat) (x v : Int32), v.toInt = (V : Int) → i3.toInt = (V : Int) + m → m < f → x.toInt = (ob a29 b2 B V : Int) →
    ∃ N : Int32, N.toInt = (ob a29 b2 B (V + m) : Int) ∧ f_m12_lists_j15 i3 i10 b2 b34 b35 xB n s C64 C65 self f x v = (if N.toInt ≠ 0 then self (xB + Int32.ofInt 1) (n + (1 : Int32)) (s + N) (upd C64 n.toNatClampNeg xB) (upd C65 n.toNatClampNeg N) else (self (xB + Int32.ofInt 1) n s C64 C65)) := by
  intro m
  induction m with
  | zero =>
    intro f V x v hv hi hf hx
    obtain ⟨f, rfl⟩ : ∃ w, f = w + 1 := ⟨f - 1, by omega⟩
    rw [S_m12_lists_j15, if_pos (show v.toInt ≥ i3.toInt by omega)]
    exact ⟨x, hx, rfl⟩
  | succ m ih =>
    intro f V x v hv hi hf hx
    obtain ⟨f, rfl⟩ : ∃ w, f = w + 1 := ⟨f - 1, by omega⟩
    have hz : (v + Int32.ofInt 1).toInt = ((V + 1 : Nat) : Int) := by
      have := toInt_add hv co1 (by omega) (by omega)
      omega
    have hl := ob_le a29 b2 B V
    have h0 : (x + (0 : Int32)).toInt = (ob a29 b2 B V : Int) := by
      have := toInt_add hx c0 (by omega) (by omega)
      omega
    have h1 : (x + (1 : Int32)).toInt = ((ob a29 b2 B V + 1 : Nat) : Int) := by
      have := toInt_add hx c1 (by omega) (by omega)
      omega
    have efo : F_m12_fixedOf v i10 b34 b35 = a29 V := fo_of hv (by omega) h10 hX
    have eo : ob a29 b2 B (V + 1) = ob a29 b2 B V + (if (b2 V).toInt = (B : Int) ∧ (a29 V).toInt = -1 then 1 else 0) := rfl
    rw [S_m12_lists_j15, if_neg (show ¬ v.toInt ≥ i3.toInt by omega), nc hv, efo, show V + (m + 1) = V + 1 + m by omega]
    by_cases w : (b2 V).toInt ≠ xB.toInt
    · rw [if_neg (show ¬ ((b2 V).toInt = (B : Int) ∧ (a29 V).toInt = -1) from fun q => w (by omega))] at eo
      rw [if_pos w]
      exact ih f (V + 1) _ _ hz (by omega) (by omega) (by rw [eo]; exact h0)
    · rw [if_neg w]
      by_cases w2 : (a29 V).toInt ≠ -1
      · rw [if_neg (show ¬ ((b2 V).toInt = (B : Int) ∧ (a29 V).toInt = -1) from fun q => w2 q.2)] at eo
        rw [if_pos w2]
        exact ih f (V + 1) _ _ hz (by omega) (by omega) (by rw [eo]; exact h0)
      · rw [if_pos (show (b2 V).toInt = (B : Int) ∧ (a29 V).toInt = -1 by omega)] at eo
        rw [if_neg w2]
        exact ih f (V + 1) _ _ hz (by omega) (by omega) (by rw [eo]; exact h1)
/-- the class counts all books at once -/
theorem gb_count {a52 a53 : Nat → Int32} (hV : VRS i3 a7 b2) (h60 : i3.toInt ≤ 60) : ∀ (m f V : Nat) (v : Int32) (A : Nat → Int32), v.toInt = (V : Int) → i3.toInt = (V : Int) + m → m < f → (∀ b, b < 8 → (A b).toInt = (ob a29 b2 b V : Int)) →
    ∃ A' : Nat → Int32, (∀ b, b < 8 → (A' b).toInt = (ob a29 b2 b (V + m) : Int)) ∧ f_x5_gatherBooks_j7 i3 a7 a29 a52 a53 f v A = f_x5_gatherBooks_j18 a53 A' 9 (0 : Int32) (0 : Int32) a52 := by
  intro m
  induction m with
  | zero =>
    intro f V v A hv hi hf hA
    obtain ⟨f, rfl⟩ : ∃ w, f = w + 1 := ⟨f - 1, by omega⟩
    rw [S_x5_gatherBooks_j7, show F_x9_size i3 = i3 from rfl, if_pos (show v.toInt ≥ i3.toInt by omega)]
    exact ⟨A, hA, rfl⟩
  | succ m ih =>
    intro f V v A hv hi hf hA
    obtain ⟨f, rfl⟩ : ∃ w, f = w + 1 := ⟨f - 1, by omega⟩
    have hz : (v + Int32.ofInt 1).toInt = ((V + 1 : Nat) : Int) := by
      have := toInt_add hv co1 (by omega) (by omega)
      omega
    obtain ⟨v1, v2, v3⟩ := hV V (by omega)
    have eb : F_x9_bookOf v i3 a7 = b2 V := by
      rcases xhas (u := v) (i3 := i3) with ⟨_, h⟩ | ⟨g1, _⟩
      · rw [E_x9_bookOf, h, if_neg n10, nc hv, v1]
      · exact absurd (show 0 ≤ v.toInt ∧ v.toInt < i3.toInt by omega) g1
    have efn : F_x8_fixedNumber v a29 = a29 V := fn_of hv (by omega)
    obtain ⟨K, hK⟩ : ∃ K : Nat, (b2 V).toInt = (K : Int) := ⟨(b2 V).toInt.toNat, by omega⟩
    rw [S_x5_gatherBooks_j7, show F_x9_size i3 = i3 from rfl, if_neg (show ¬ v.toInt ≥ i3.toInt by omega), eb, efn, if_neg (show ¬ (b2 V).toInt < 0 by omega), if_neg (show ¬ (b2 V).toInt ≥ 8 by omega), show V + (m + 1) = V + 1 + m by omega]
    have eo : ∀ b, ob a29 b2 b (V + 1) = ob a29 b2 b V + (if (b2 V).toInt = (b : Int) ∧ (a29 V).toInt = -1 then 1 else 0) := fun _ => rfl
    by_cases w : (a29 V).toInt ≠ -1
    · rw [if_pos w]
      refine ih f (V + 1) _ A hz (by omega) (by omega) (fun b hb => ?_)
      rw [eo b, if_neg (fun q => w q.2)]
      exact hA b hb
    · rw [if_neg w, nc hK]
      refine ih f (V + 1) _ _ hz (by omega) (by omega) (fun b hb => ?_)
      rw [eo b]
      by_cases e : b = K
      · have hl := ob_le a29 b2 K V
        have hk := hA K (by omega)
        have := toInt_add hk c1 (by omega) (by omega)
        rw [e, upd_s, if_pos (show (b2 V).toInt = (K : Int) ∧ (a29 V).toInt = -1 by omega)]
        omega
      · rw [upd_n e, if_neg (fun q => e (by omega))]
        exact hA b hb
/-- what both sides have of the open books -/
def OPB (I n : Nat) (a29 b2 A : Nat → Int32) (B52 C64 C65 : Nat → Int32) (s : Int32) : Prop :=
  n ≤ 6 ∧ s.toInt = sm C65 n ∧ ∀ k, k < n → B52 k = C64 k ∧ (0 ≤ (C64 k).toInt ∧ (C64 k).toInt ≤ 7) ∧ A (C64 k).toNatClampNeg = C65 k ∧ 0 < (C65 k).toInt ∧ (C65 k).toInt ≤ 60
theorem z26 {A B : Nat → Int32} {n : Int32} : ∀ (m f k : Nat) (x : Int32) (L : Nat → Int32), x.toInt = (k : Int) → k + m = 6 → m < f → (∀ c, c < k → L c = 0) → ∃ L' : Nat → Int32, (∀ c, c < 6 → L' c = 0) ∧ f_x5_gatherBooks_j26 A n B f x L = (n, A, B, L') ∧ f_x5_gatherBooks_j38 A n B f x L = (n, A, B, L') := by
  intro m
  induction m with
  | zero =>
    intro f k x L hx hk hf hL
    obtain ⟨f, rfl⟩ : ∃ w, f = w + 1 := ⟨f - 1, by omega⟩
    rw [S_x5_gatherBooks_j26, S_x5_gatherBooks_j38, if_pos (show x.toInt ≥ 6 by omega), if_pos (show x.toInt ≥ 6 by omega)]
    exact ⟨L, fun c hc => hL c (by omega), rfl, rfl⟩
  | succ m ih =>
    intro f k x L hx hk hf hL
    obtain ⟨f, rfl⟩ : ∃ w, f = w + 1 := ⟨f - 1, by omega⟩
    have hz : (x + Int32.ofInt 1).toInt = ((k + 1 : Nat) : Int) := by
      have := toInt_add hx co1 (by omega) (by omega)
      omega
    rw [S_x5_gatherBooks_j26, S_x5_gatherBooks_j38, if_neg (show ¬ x.toInt ≥ 6 by omega), if_neg (show ¬ x.toInt ≥ 6 by omega), nc hx]
    refine ih f (k + 1) _ _ hz (by omega) (by omega) (fun c hc => ?_)
    by_cases e : c = k
    · rw [e, upd_s]
    · rw [upd_n e]; exact hL c (by omega)
theorem ga_loop {a53 A : Nat → Int32} {I : Nat} (h10 : 0 ≤ i10.toInt ∧ i10.toInt ≤ 200) (hX : FXD i10 a29 b34 b35) (hI : i3.toInt = (I : Int)) (h60 : I ≤ 60) (hA : ∀ b, b < 8 → (A b).toInt = (ob a29 b2 b I : Int)) : ∀ (m f g X N : Nat) (x n s : Int32) (B C64 C65 : Nat → Int32), x.toInt = (X : Int) → X + m = 8 → m < f → m < g → n.toInt = (N : Int) → OPB I N a29 b2 A B C64 C65 s →
    ∃ (N' : Nat) (n' s' : Int32) (L' B' D64 D65 : Nat → Int32), n'.toInt = (N' : Int) ∧ OPB I N' a29 b2 A B' D64 D65 s' ∧ (∀ c, c < 6 → L' c = 0) ∧ f_x5_gatherBooks_j18 a53 A f x n B = (n', A, B', L') ∧ f_m12_lists_j1 i3 i10 b2 b34 b35 g x n s C64 C65 = (n', s', D64, D65) := by
  intro m
  induction m with
  | zero =>
    intro f g X N x n s B C64 C65 hx hm hf hg hn hO
    obtain ⟨f, rfl⟩ : ∃ w, f = w + 1 := ⟨f - 1, by omega⟩
    obtain ⟨g, rfl⟩ : ∃ w, g = w + 1 := ⟨g - 1, by omega⟩
    obtain ⟨L', l1, l2, -⟩ := z26 (A := A) (B := B) (n := n) 6 7 0 (0 : Int32) a53 c0 rfl (by omega) (fun c hc => absurd hc (Nat.not_lt_zero c))
    rw [S_x5_gatherBooks_j18, S_m12_lists_j1, if_pos (show x.toInt ≥ 8 by omega), if_pos (show x.toInt ≥ 8 by omega), l2]
    exact ⟨N, n, s, L', B, C64, C65, hn, hO, l1, rfl, rfl⟩
  | succ m ih =>
    intro f g X N x n s B C64 C65 hx hm hf hg hn hO
    obtain ⟨f, rfl⟩ : ∃ w, f = w + 1 := ⟨f - 1, by omega⟩
    obtain ⟨g, rfl⟩ : ∃ w, g = w + 1 := ⟨g - 1, by omega⟩
    have hz : (x + Int32.ofInt 1).toInt = ((X + 1 : Nat) : Int) := by
      have := toInt_add hx co1 (by omega) (by omega)
      omega
    rw [S_x5_gatherBooks_j18, S_m12_lists_j1, if_neg (show ¬ x.toInt ≥ 8 by omega), if_neg (show ¬ x.toInt ≥ 8 by omega)]
    obtain ⟨o1, o2, o3⟩ := hO
    by_cases w : n.toInt ≥ 6
    · obtain ⟨L', l1, -, l2⟩ := z26 (A := A) (B := B) (n := n) 6 7 0 (0 : Int32) a53 c0 rfl (by omega) (fun c hc => absurd hc (Nat.not_lt_zero c))
      rw [if_pos w, if_pos w, l2]
      exact ⟨N, n, s, L', B, C64, C65, hn, ⟨o1, o2, o3⟩, l1, rfl, rfl⟩
    · obtain ⟨M, q1, q2⟩ := lb_loop37 (i3 := i3) (a29 := a29) (b2 := b2) (n := n) (s := s) (C64 := C64) (C65 := C65) (self := f_m12_lists_j1 i3 i10 b2 b34 b35 g) h10 hX hx (by omega) I 61 0 (0 : Int32) (0 : Int32) c0 (by omega) (by omega) c0
      rw [Nat.zero_add] at q1
      have ha := hA X (by omega)
      have hl := ob_le a29 b2 X I
      have eM : A X = M := eq_of_toInt (by omega)
      rw [if_neg w, if_neg w, q2, nc hx, eM]
      by_cases z : M.toInt ≤ 0
      · rw [if_pos z, if_neg (show ¬ M.toInt ≠ 0 by omega)]
        exact ih f g (X + 1) N _ n s B C64 C65 hz (by omega) (by omega) (by omega) hn ⟨o1, o2, o3⟩
      · rw [if_neg z, if_pos (show M.toInt ≠ 0 by omega), nc hn]
        have hn1 : (n + (1 : Int32)).toInt = ((N + 1 : Nat) : Int) := by
          have := toInt_add hn c1 (by omega) (by omega)
          omega
        have sp := sm_pos N (fun k hk => (o3 k hk).2.2.2)
        refine ih f g (X + 1) (N + 1) _ _ _ _ _ _ hz (by omega) (by omega) (by omega) hn1 ⟨by omega, ?_, fun k hk => ?_⟩
        · have e1 : sm (upd C65 N M) (N + 1) = sm C65 N + M.toInt := by
            show sm (upd C65 N M) N + (upd C65 N M N).toInt = _
            rw [upd_s, sm_congr (f := upd C65 N M) (g := C65) N (fun k hk => upd_n (by omega))]
          rw [e1]
          exact toInt_add o2 rfl (by omega) (by omega)
        · by_cases e : k = N
          · rw [e, upd_s, upd_s, upd_s, nc hx, eM]
            exact ⟨rfl, ⟨by omega, by omega⟩, rfl, by omega, by omega⟩
          · rw [upd_n e, upd_n e, upd_n e]
            exact o3 k (by omega)
/-- the class's and the reference's open books -/
theorem gather_of {a51 a52 a53 b64 b65 : Nat → Int32} (h3 : 0 ≤ i3.toInt ∧ i3.toInt ≤ 60) (h10 : 0 ≤ i10.toInt ∧ i10.toInt ≤ 200) (hX : FXD i10 a29 b34 b35) (hV : VRS i3 a7 b2) :
    ∃ (I N : Nat) (n s : Int32) (A L B C64 C65 : Nat → Int32), n.toInt = (N : Int) ∧ OPB I N a29 b2 A B C64 C65 s ∧ (∀ c, c < 6 → L c = 0) ∧ F_x5_gatherBooks i3 a7 a29 a51 a52 a53 = (n, A, B, L) ∧ F_m12_lists i3 i10 b2 b34 b35 b64 b65 = (n, s, C64, C65) := by
  obtain ⟨I, hI⟩ : ∃ I : Nat, i3.toInt = (I : Int) := ⟨i3.toInt.toNat, by omega⟩
  have z1 : ∀ (m f k : Nat) (x : Int32) (A : Nat → Int32), x.toInt = (k : Int) → k + m = 8 → m < f → (∀ c, c < k → A c = 0) → ∃ A' : Nat → Int32, (∀ c, c < 8 → A' c = 0) ∧ f_x5_gatherBooks_j1 i3 a7 a29 a52 a53 f x A = f_x5_gatherBooks_j7 i3 a7 a29 a52 a53 61 (0 : Int32) A' := by
    intro m
    induction m with
    | zero =>
      intro f k x A hx hk hf hA
      obtain ⟨f, rfl⟩ : ∃ w, f = w + 1 := ⟨f - 1, by omega⟩
      rw [S_x5_gatherBooks_j1, if_pos (show x.toInt ≥ 8 by omega)]
      exact ⟨A, fun c hc => hA c (by omega), rfl⟩
    | succ m ih =>
      intro f k x A hx hk hf hA
      obtain ⟨f, rfl⟩ : ∃ w, f = w + 1 := ⟨f - 1, by omega⟩
      have hz : (x + Int32.ofInt 1).toInt = ((k + 1 : Nat) : Int) := by
        have := toInt_add hx co1 (by omega) (by omega)
        omega
      rw [S_x5_gatherBooks_j1, if_neg (show ¬ x.toInt ≥ 8 by omega), nc hx]
      refine ih f (k + 1) _ _ hz (by omega) (by omega) (fun c hc => ?_)
      by_cases e : c = k
      · rw [e, upd_s]
      · rw [upd_n e]; exact hA c (by omega)
  obtain ⟨A0, p1, p2⟩ := z1 8 9 0 (0 : Int32) a51 c0 rfl (by omega) (fun c hc => absurd hc (Nat.not_lt_zero c))
  obtain ⟨A, p3, p4⟩ := gb_count (a29 := a29) (a52 := a52) (a53 := a53) hV h3.2 I 61 0 (0 : Int32) A0 c0 (by omega) (by omega) (fun b hb => by rw [p1 b hb]; exact c0)
  rw [Nat.zero_add] at p3
  obtain ⟨N, n, s, L, B, C64, C65, g1, g2, g3, g4, g5⟩ := ga_loop (i3 := i3) (a53 := a53) (b2 := b2) h10 hX hI (by omega) p3 8 9 9 0 0 (0 : Int32) (0 : Int32) (0 : Int32) a52 b64 b65 c0 rfl (by omega) (by omega) c0 ⟨Nat.zero_le _, c0, fun k hk => absurd hk (Nat.not_lt_zero k)⟩
  exact ⟨I, N, n, s, A, L, B, C64, C65, g1, g2, g3, by rw [E_x5_gatherBooks, p2, p4, g4], by rw [E_m12_lists, g5]⟩
end GATHER
theorem maxI_i {x y : Int32} : (maxI x y).toInt = max x.toInt y.toInt := by
  unfold maxI
  by_cases h : y.toInt ≤ x.toInt
  · rw [if_pos h]; omega
  · rw [if_neg h]; omega
theorem up_i {l r : Int32} (hl : 0 ≤ l.toInt ∧ l.toInt ≤ 1000) (hr : 0 < r.toInt ∧ r.toInt ≤ 99) : (F_m12_up l r).toInt = (l.toInt + r.toInt - 1) / r.toInt ∧ 0 ≤ (F_m12_up l r).toInt := by
  have e1 := toInt_add (x := l) (y := r) rfl rfl (by omega) (by omega)
  have e2 := toInt_sub e1 c1 (by omega) (by omega)
  have e3 : (F_m12_up l r).toInt = (l.toInt + r.toInt - 1) / r.toInt := by
    rw [E_m12_up]
    exact toInt_divc e2 rfl (by omega) (by omega)
  refine ⟨e3, ?_⟩
  rw [e3]
  exact Int.ediv_nonneg (by omega) (by omega)
theorem up_mono {l k r : Int32} (hl : 0 ≤ l.toInt ∧ l.toInt ≤ k.toInt) (hk : k.toInt ≤ 1000) (hr : 0 < r.toInt ∧ r.toInt ≤ 99) : (F_m12_up l r).toInt ≤ (F_m12_up k r).toInt := by
  rw [(up_i ⟨hl.1, by omega⟩ hr).1, (up_i ⟨by omega, hk⟩ hr).1]
  exact Int.ediv_le_ediv hr.1 (by omega)
theorem thr_up {l r : Int32} (hr : 0 < r.toInt) : F_x5_through l r = F_m12_up l r := by
  rw [E_x5_through, if_pos hr, E_m12_up]
/-- the greatest of the days -/
def ISM (i6 : Int32) (b9 L : Nat → Int32) (X : Nat) (D d : Int) : Prop :=
  D ≤ d ∧ (∀ c, c < X → (c : Int) < i6.toInt → 0 < (L c).toInt → (F_m12_up (L c) (b9 c)).toInt ≤ d) ∧ (d = D ∨ ∃ c, c < X ∧ (c : Int) < i6.toInt ∧ 0 < (L c).toInt ∧ d = (F_m12_up (L c) (b9 c)).toInt)
theorem ISM_uniq {i6 : Int32} {b9 L : Nat → Int32} {X : Nat} {D d e : Int} (h : ISM i6 b9 L X D d) (g : ISM i6 b9 L X D e) : d = e := by
  obtain ⟨h1, h2, h3⟩ := h
  obtain ⟨g1, g2, g3⟩ := g
  have le1 : d ≤ e := by
    rcases h3 with q | ⟨c, q1, q2, q3, q4⟩
    · omega
    · rw [q4]; exact g2 c q1 q2 q3
  have le2 : e ≤ d := by
    rcases g3 with q | ⟨c, q1, q2, q3, q4⟩
    · omega
    · rw [q4]; exact h2 c q1 q2 q3
  omega
/-- the reference's greatest -/
theorem jm_loop {i6 : Int32} {b9 L : Nat → Int32} {D : Int} (h6 : i6.toInt ≤ 6) : ∀ (m f X : Nat) (x d : Int32), x.toInt = (X : Int) → i6.toInt = (X : Int) + m → m < f → ISM i6 b9 L X D d.toInt → ∃ z : Int32, f_m12_daysBy_j27 i6 b9 L f d x = (z, L) ∧ ISM i6 b9 L (X + m) D z.toInt := by
  intro m
  induction m with
  | zero =>
    intro f X x d hx hi hf h
    obtain ⟨f, rfl⟩ : ∃ w, f = w + 1 := ⟨f - 1, by omega⟩
    rw [S_m12_daysBy_j27, if_pos (show x.toInt ≥ i6.toInt by omega)]
    exact ⟨d, rfl, h⟩
  | succ m ih =>
    intro f X x d hx hi hf h
    obtain ⟨f, rfl⟩ : ∃ w, f = w + 1 := ⟨f - 1, by omega⟩
    have hz : (x + Int32.ofInt 1).toInt = ((X + 1 : Nat) : Int) := by
      have := toInt_add hx co1 (by omega) (by omega)
      omega
    obtain ⟨h1, h2, h3⟩ := h
    rw [S_m12_daysBy_j27, if_neg (show ¬ x.toInt ≥ i6.toInt by omega), nc hx, show X + (m + 1) = X + 1 + m by omega]
    have keep : (0 < (L X).toInt → (F_m12_up (L X) (b9 X)).toInt ≤ d.toInt) → ISM i6 b9 L (X + 1) D d.toInt := by
      intro hk
      refine ⟨h1, fun c q1 q2 q3 => ?_, ?_⟩
      · by_cases e : c = X
        · rw [e] at q3 ⊢; exact hk q3
        · exact h2 c (by omega) q2 q3
      · rcases h3 with q | ⟨c, q1, q2, q3, q4⟩
        · exact Or.inl q
        · exact Or.inr ⟨c, by omega, q2, q3, q4⟩
    by_cases w : (L X).toInt ≤ 0
    · rw [if_pos w]
      exact ih f (X + 1) _ d hz (by omega) (by omega) (keep (fun q => absurd q (by omega)))
    · rw [if_neg w]
      by_cases w2 : (F_m12_up (L X) (b9 X)).toInt ≤ d.toInt
      · rw [if_pos w2]
        exact ih f (X + 1) _ d hz (by omega) (by omega) (keep (fun _ => w2))
      · rw [if_neg w2]
        refine ih f (X + 1) _ _ hz (by omega) (by omega) ⟨by omega, fun c q1 q2 q3 => ?_, Or.inr ⟨X, by omega, by omega, by omega, rfl⟩⟩
        by_cases e : c = X
        · rw [e]; exact Int.le_refl _
        · have := h2 c (by omega) q2 q3
          omega
theorem ISM_put {i6 : Int32} {b9 L : Nat → Int32} {X C : Nat} {D : Int} {d n : Int32} (h : ISM i6 b9 L X D d.toInt) (hC : C < X) (hC6 : (C : Int) < i6.toInt) (hr : 0 < (b9 C).toInt ∧ (b9 C).toInt ≤ 99) (hL : 0 ≤ (L C).toInt) (hn : 0 < n.toInt) (hs : (L C + n).toInt = (L C).toInt + n.toInt) (h1000 : (L C).toInt + n.toInt ≤ 1000) :
    ISM i6 b9 (upd L C (L C + n)) X D (maxI d (F_m12_up (L C + n) (b9 C))).toInt := by
  obtain ⟨h1, h2, h3⟩ := h
  have mo := up_mono (l := L C) (k := L C + n) (r := b9 C) ⟨hL, by omega⟩ (by omega) hr
  rw [maxI_i]
  generalize hu : (F_m12_up (L C + n) (b9 C)).toInt = u at mo ⊢
  refine ⟨by omega, fun c q1 q2 q3 => ?_, ?_⟩
  · by_cases e : c = C
    · rw [e, upd_s, hu]; omega
    · rw [upd_n e] at q3 ⊢
      have := h2 c q1 q2 q3
      omega
  · by_cases w : d.toInt ≤ u
    · exact Or.inr ⟨C, hC, hC6, by rw [upd_s]; omega, by rw [upd_s, hu]; omega⟩
    · rcases h3 with q | ⟨c, q1, q2, q3, q4⟩
      · exact Or.inl (by omega)
      · have e : c ≠ C := fun e => by
          rw [e] at q4
          omega
        exact Or.inr ⟨c, q1, q2, by rw [upd_n e]; exact q3, by rw [upd_n e]; omega⟩
section ROWS
variable {i5 i6 j8 : Int32} {a13 a14 b8 b9 A B C64 C65 : Nat → Int32} {I N : Nat} {n s : Int32} {a29 b2 : Nat → Int32}
/-- may this company have this book -/
theorem may_of {c : Int32} {K k : Nat} (hc : c.toInt = (K : Int)) (hK : K < 6) (h6 : 0 ≤ i6.toInt ∧ i6.toInt ≤ 6) (hP : PPL i6 a13 b8) (hR : RRT i5 i6 j8 a14 b9) (hb : 0 ≤ (C64 k).toInt ∧ (C64 k).toInt ≤ 7) :
    (F_x5_mayHave c (C64 k) i6 a13 a14 = 0 ∧ (c.toInt ≥ i6.toInt ∨ (c.toInt < i6.toInt ∧ (b9 K).toInt = 0) ∨ (c.toInt < i6.toInt ∧ (b9 K).toInt ≠ 0 ∧ (F_m12_has (b8 K) (C64 k)).toInt = 0))) ∨ (F_x5_mayHave c (C64 k) i6 a13 a14 = 1 ∧ c.toInt < i6.toInt ∧ (b9 K).toInt ≠ 0 ∧ (F_m12_has (b8 K) (C64 k)).toInt ≠ 0 ∧ F_x4_rateOf c i6 a14 = b9 K) := by
  rw [E_x5_mayHave]
  rcases xcom (u := c) (i6 := i6) with ⟨k1, kk⟩ | ⟨k1, kk⟩
  · have eh := has_eq (bk := C64 k) hc (by omega) hP hb
    obtain ⟨r1, r2, r3⟩ := hR.2.2 K (by omega)
    have er : F_x4_rateOf c i6 a14 = b9 K := by rw [E_x4_rateOf, kk, if_neg n10, nc hc, r1]
    rw [eh, er, nc hc]
    by_cases w : (F_m12_has (b8 K) (C64 k)).toInt = 0
    · rw [if_pos w]
      refine Or.inl ⟨rfl, Or.inr ?_⟩
      by_cases z : (b9 K).toInt = 0
      · exact Or.inl ⟨k1.2, z⟩
      · exact Or.inr ⟨k1.2, z, w⟩
    · rw [if_neg w]
      by_cases z : (b9 K).toInt ≤ 0
      · rw [if_pos z]
        exact Or.inl ⟨rfl, Or.inr (Or.inl ⟨k1.2, by omega⟩)⟩
      · rw [if_neg z]
        exact Or.inr ⟨rfl, k1.2, by omega, w, rfl⟩
  · have er : F_x4_rateOf c i6 a14 = 0 := by rw [E_x4_rateOf, kk, if_pos y00]
    rw [er]
    refine Or.inl ⟨?_, Or.inl (by omega)⟩
    by_cases w : (F_x4_hasBook c (C64 k) i6 a13).toInt = 0
    · rw [if_pos w]
    · rw [if_neg w, if_pos (show (0 : Int32).toInt ≤ 0 by decide)]
/-- a row of no company -/
theorem may_neg {c bk : Int32} (hc : c.toInt < 0) : F_x5_mayHave c bk i6 a13 a14 = 0 := by
  rw [E_x5_mayHave]
  rcases xcom (u := c) (i6 := i6) with ⟨k1, kk⟩ | ⟨k1, kk⟩
  · omega
  · have er : F_x4_rateOf c i6 a14 = 0 := by rw [E_x4_rateOf, kk, if_pos y00]
    rw [er]
    by_cases w : (F_x4_hasBook c bk i6 a13).toInt = 0
    · rw [if_pos w]
    · rw [if_neg w, if_pos (show (0 : Int32).toInt ≤ 0 by decide)]
theorem tneg {x : Int32} {y : Int} (hx : x.toInt = -y) (h0 : 0 ≤ y) (hy : y ≤ 2147483648) : (x / (6 : Int32)).toInt = -(y / 6) ∧ (x - x / (6 : Int32) * (6 : Int32)).toInt = -(y % 6) := by
  have h1 : (x / (6 : Int32)).toInt = -(y / 6) := by
    rw [Int32.toInt_div, hx, c6_, Int.neg_tdiv, Int.tdiv_eq_ediv_of_nonneg h0, Int.bmod_def]
    omega
  have h2 : (x / (6 : Int32) * (6 : Int32)).toInt = -(y / 6) * 6 := toInt_mul h1 c6_ rfl (by omega) (by omega)
  have h3 := toInt_sub hx h2 (by omega) (by omega)
  exact ⟨h1, by omega⟩
theorem jn_loop : ∀ (m f k : Nat) (d rest x : Int32) (y : Int) (L : Nat → Int32), x.toInt = (k : Int) → n.toInt = (k : Int) + m → n.toInt ≤ 6 → m < f → rest.toInt = -y → 1 ≤ y → y ≤ 2147483648 → (f_x5_daysOf_j17 i6 a13 a14 n A B f d rest x L).1 = (-1 : Int32) := by
  intro m
  induction m with
  | zero =>
    intro f k d rest x y L hx hn h6 hf hr h1 hy
    obtain ⟨f, rfl⟩ : ∃ w, f = w + 1 := ⟨f - 1, by omega⟩
    rw [S_x5_daysOf_j17, if_pos (show x.toInt ≥ n.toInt by omega), if_pos (show rest.toInt ≠ 0 by omega)]
  | succ m ih =>
    intro f k d rest x y L hx hn h6 hf hr h1 hy
    obtain ⟨f, rfl⟩ : ∃ w, f = w + 1 := ⟨f - 1, by omega⟩
    have hz : (x + Int32.ofInt 1).toInt = ((k + 1 : Nat) : Int) := by
      have := toInt_add hx co1 (by omega) (by omega)
      omega
    obtain ⟨t1, t2⟩ := tneg hr (by omega) hy
    rw [S_x5_daysOf_j17, if_neg (show ¬ x.toInt ≥ n.toInt by omega)]
    by_cases w : d.toInt = -1
    · rw [if_pos w]
    · rw [if_neg w]
      by_cases w2 : y % 6 = 0
      · split
        · exact ih f (k + 1) _ _ _ (y / 6) _ hz (by omega) h6 (by omega) t1 (by omega) (by omega)
        · rfl
      · rw [may_neg (by omega), if_neg n00]
/-- both sides go through the row -/
theorem jr_loop {D : Int32} (h6 : 0 ≤ i6.toInt ∧ i6.toInt ≤ 6) (hP : PPL i6 a13 b8) (hR : RRT i5 i6 j8 a14 b9) (hn : n.toInt = (N : Int)) (hO : OPB I N a29 b2 A B C64 C65 s) (hD : D = F_m12_up s j8) (hD0 : 0 ≤ D.toInt) : ∀ (m f g k : Nat) (d rest x : Int32) (L M : Nat → Int32), x.toInt = (k : Int) → N = k + m → m < f → m < g → 0 ≤ rest.toInt → (∀ c, c < 6 → L c = M c ∧ 0 ≤ (L c).toInt ∧ (L c).toInt ≤ 60 * (k : Int)) → ISM i6 b9 M 6 D.toInt d.toInt →
    (f_x5_daysOf_j17 i6 a13 a14 n A B f d rest x L).1 = (f_m12_daysBy_j12 i6 j8 n s b8 b9 C64 C65 g rest x M).1 := by
  obtain ⟨o1, o2, o3⟩ := hO
  intro m
  induction m with
  | zero =>
    intro f g k d rest x L M hx hm hf hg h0 hL hS
    obtain ⟨f, rfl⟩ : ∃ w, f = w + 1 := ⟨f - 1, by omega⟩
    obtain ⟨g, rfl⟩ : ∃ w, g = w + 1 := ⟨g - 1, by omega⟩
    rw [S_x5_daysOf_j17, S_m12_daysBy_j12, if_pos (show x.toInt ≥ n.toInt by omega), if_pos (show x.toInt ≥ n.toInt by omega)]
    by_cases w : rest.toInt ≠ 0
    · rw [if_pos w, if_neg (show ¬ rest.toInt ≤ 0 by omega)]
    · rw [if_neg w, if_pos (show rest.toInt ≤ 0 by omega), ← hD]
      obtain ⟨z, z1, z2⟩ := jm_loop (i6 := i6) (b9 := b9) (L := M) (D := D.toInt) h6.2 i6.toInt.toNat 7 0 (0 : Int32) D c0 (by omega) (by omega) ⟨Int.le_refl _, fun c q => absurd q (Nat.not_lt_zero c), Or.inl rfl⟩
      have z3 : ISM i6 b9 M 6 D.toInt z.toInt := by
        obtain ⟨g1, g2, g3⟩ := z2
        refine ⟨g1, fun c q1 q2 q3 => g2 c (by omega) q2 q3, ?_⟩
        rcases g3 with q | ⟨c, q1, q2, q3, q4⟩
        · exact Or.inl q
        · exact Or.inr ⟨c, by omega, q2, q3, q4⟩
      rw [z1]
      exact eq_of_toInt (ISM_uniq hS z3)
  | succ m ih =>
    intro f g k d rest x L M hx hm hf hg h0 hL hS
    obtain ⟨f, rfl⟩ : ∃ w, f = w + 1 := ⟨f - 1, by omega⟩
    obtain ⟨g, rfl⟩ : ∃ w, g = w + 1 := ⟨g - 1, by omega⟩
    have hz : (x + Int32.ofInt 1).toInt = ((k + 1 : Nat) : Int) := by
      have := toInt_add hx co1 (by omega) (by omega)
      omega
    have hd := hS.1
    have er := toInt_remm (x := rest) rfl c6_ h0 (by omega)
    have eq := toInt_divc (x := rest) rfl c6_ h0 (by omega)
    obtain ⟨K, hK⟩ : ∃ K : Nat, (rest - rest / (6 : Int32) * (6 : Int32)).toInt = (K : Int) ∧ K < 6 := ⟨(rest.toInt % 6).toNat, by omega, by omega⟩
    obtain ⟨hK, hK6⟩ := hK
    obtain ⟨p1, p2, p3, p4, p5⟩ := o3 k (by omega)
    rw [S_x5_daysOf_j17, S_m12_daysBy_j12, if_neg (show ¬ x.toInt ≥ n.toInt by omega), if_neg (show ¬ x.toInt ≥ n.toInt by omega), if_neg (show ¬ d.toInt = -1 by omega), nc hx, p1, p3]
    clear er
    generalize rest - rest / (6 : Int32) * (6 : Int32) = c at hK ⊢
    rw [nc hK]
    rcases may_of hK hK6 h6 hP hR p2 with ⟨q1, q2⟩ | ⟨q1, q2, q3, q4, q5⟩
    · rw [q1, if_neg n00]
      rcases q2 with q | ⟨q, q'⟩ | ⟨q, q', q''⟩
      · rw [if_pos q]
      · rw [if_neg (show ¬ c.toInt ≥ i6.toInt by omega), if_pos q']
      · rw [if_neg (show ¬ c.toInt ≥ i6.toInt by omega), if_neg q', if_neg (fun w => w q'')]
    · obtain ⟨l1, l2, l3⟩ := hL K hK6
      obtain ⟨r1, r2, r3⟩ := hR.2.2 K (by omega)
      have sum := toInt_add (x := M K) (y := C65 k) rfl rfl (by rw [l1] at l2 l3; omega) (by rw [l1] at l2 l3; omega)
      rw [q1, if_pos y10, if_neg (show ¬ c.toInt ≥ i6.toInt by omega), if_neg q3, if_pos q4, q5, upd_s, l1, thr_up (by omega)]
      rw [l1] at l2 l3
      refine ih f g (k + 1) _ _ _ _ _ hz (by omega) (by omega) (by omega) (by rw [eq]; exact Int.ediv_nonneg h0 (by omega)) (fun e he => ?_) ?_
      · by_cases w : e = K
        · rw [w, upd_s, upd_s, sum]
          exact ⟨rfl, by omega, by omega⟩
        · obtain ⟨m1, m2, m3⟩ := hL e he
          rw [upd_n w, upd_n w]
          exact ⟨m1, m2, by omega⟩
      · exact ISM_put hS hK6 (by omega) ⟨by omega, r3⟩ l2 p4 sum (by omega)
/-- the centre's days -/
theorem jc_loop (hn : n.toInt = (N : Int)) (hO : OPB I N a29 b2 A B C64 C65 s) : ∀ (m f k : Nat) (y x : Int32), x.toInt = (k : Int) → N = k + m → m < f → y.toInt = sm C65 k → f_x5_daysOfCentre_j1 i5 n A B f y x = (if s.toInt ≠ 0 then (if i5.toInt ≠ 0 then F_x5_through s i5 else (-1 : Int32)) else (0 : Int32)) := by
  obtain ⟨o1, o2, o3⟩ := hO
  intro m
  induction m with
  | zero =>
    intro f k y x hx hm hf hy
    obtain ⟨f, rfl⟩ : ∃ w, f = w + 1 := ⟨f - 1, by omega⟩
    have e : y = s := eq_of_toInt (by rw [hy, o2, show N = k by omega])
    rw [S_x5_daysOfCentre_j1, if_pos (show x.toInt ≥ n.toInt by omega), e, E_x4_centreRate]
  | succ m ih =>
    intro f k y x hx hm hf hy
    obtain ⟨f, rfl⟩ : ∃ w, f = w + 1 := ⟨f - 1, by omega⟩
    have hz : (x + Int32.ofInt 1).toInt = ((k + 1 : Nat) : Int) := by
      have := toInt_add hx co1 (by omega) (by omega)
      omega
    obtain ⟨p1, p2, p3, p4, p5⟩ := o3 k (by omega)
    have sp := sm_pos (f := C65) k (fun j hj => (o3 j (by omega)).2.2.2)
    rw [S_x5_daysOfCentre_j1, if_neg (show ¬ x.toInt ≥ n.toInt by omega), nc hx, p1, p3]
    refine ih f (k + 1) _ _ hz (by omega) (by omega) ?_
    exact toInt_add hy rfl (by omega) (by omega)
theorem j5_zero {p s' : Int32} : ∀ (m f k : Nat) (x : Int32) (M : Nat → Int32), x.toInt = (k : Int) → k + m = 6 → m < f → (∀ c, c < k → M c = 0) → ∃ M' : Nat → Int32, (∀ c, c < 6 → M' c = 0) ∧ f_m12_daysBy_j5 p i6 j8 n s' b8 b9 C64 C65 f x M = f_m12_daysBy_j12 i6 j8 n s' b8 b9 C64 C65 7 p (0 : Int32) M' := by
  intro m
  induction m with
  | zero =>
    intro f k x M hx hk hf hM
    obtain ⟨f, rfl⟩ : ∃ w, f = w + 1 := ⟨f - 1, by omega⟩
    rw [S_m12_daysBy_j5, if_pos (show x.toInt ≥ 6 by omega)]
    exact ⟨M, fun c hc => hM c (by omega), rfl⟩
  | succ m ih =>
    intro f k x M hx hk hf hM
    obtain ⟨f, rfl⟩ : ∃ w, f = w + 1 := ⟨f - 1, by omega⟩
    have hz : (x + Int32.ofInt 1).toInt = ((k + 1 : Nat) : Int) := by
      have := toInt_add hx co1 (by omega) (by omega)
      omega
    rw [S_m12_daysBy_j5, if_neg (show ¬ x.toInt ≥ 6 by omega), nc hx]
    refine ih f (k + 1) _ _ hz (by omega) (by omega) (fun c hc => ?_)
    by_cases e : c = k
    · rw [e, upd_s]
    · rw [upd_n e]; exact hM c (by omega)
end ROWS
theorem R_judge {u0 i3 i5 i6 i10 j8 j28 j29 : Int32} {a7 a13 a14 a29 a51 a52 a53 b2 b8 b9 b34 b35 b64 b65 b66 : Nat → Int32} (h3 : 0 ≤ i3.toInt ∧ i3.toInt ≤ 60) (h6 : 0 ≤ i6.toInt ∧ i6.toInt ≤ 6) (h10 : 0 ≤ i10.toInt ∧ i10.toInt ≤ 200) (hX : FXD i10 a29 b34 b35) (hV : VRS i3 a7 b2) (hP : PPL i6 a13 b8) (hR : RRT i5 i6 j8 a14 b9) :
    (F_x11_judge u0 i3 i5 i6 a7 a13 a14 a29 a51 a52 a53).1 = (F_m12_judge u0 i3 i6 i10 j8 j28 j29 b2 b8 b9 b34 b35 b64 b65 b66).1 := by
  obtain ⟨I, N, n, s, A, L, B, C64, C65, g1, g2, g3, g4, g5⟩ := gather_of (a51 := a51) (a52 := a52) (a53 := a53) (b64 := b64) (b65 := b65) h3 h10 hX hV
  rw [E_x11_judge, E_x5_daysOf, E_m12_judge, g4, g5]
  have hN := g2.1
  have ec := jc_loop (i5 := i5) g1 g2 N 7 0 (0 : Int32) (0 : Int32) c0 (by omega) (by omega) c0
  have ed : F_x5_daysOfCentre i5 n A B = f_x5_daysOfCentre_j1 i5 n A B 7 (0 : Int32) (0 : Int32) := rfl
  rw [← ed] at ec
  show (f_x5_daysOf_j17 i6 a13 a14 n A B 7 (F_x5_daysOfCentre i5 n A B) u0 (0 : Int32) L).1 = _
  by_cases w : u0.toInt ≥ 0
  · rw [if_pos w]
    show _ = (F_m12_daysBy u0 i6 j8 n s b8 b9 C64 C65 b66).1
    have sp := sm_pos N (fun k hk => (g2.2.2 k hk).2.2.2)
    have hs := g2.2.1
    rw [E_m12_daysBy, ec]
    by_cases z : N = 0
    · have s0 : s.toInt = 0 := by omega
      rw [if_neg (show ¬ s.toInt ≠ 0 by omega), if_neg (show ¬ n.toInt ≠ 0 by omega), show (7 : Nat) = 6 + 1 from rfl, S_x5_daysOf_j17, if_pos (show (0 : Int32).toInt ≥ n.toInt by rw [c0]; omega)]
      by_cases z2 : u0.toInt ≠ 0
      · rw [if_pos z2, if_pos z2]
      · rw [if_neg z2, if_neg z2]
    · rw [if_pos (show s.toInt ≠ 0 by omega), if_pos (show n.toInt ≠ 0 by omega)]
      obtain ⟨r1, r2, r3⟩ := hR
      by_cases z2 : i5.toInt ≠ 0
      · obtain ⟨M', m1, m2⟩ := j5_zero (i6 := i6) (j8 := j8) (n := n) (s' := s) (b8 := b8) (b9 := b9) (C64 := C64) (C65 := C65) (p := u0) 6 7 0 (0 : Int32) b66 c0 rfl (by omega) (fun c hc => absurd hc (Nat.not_lt_zero c))
        have hi : 0 < i5.toInt := by omega
        rw [if_pos z2, if_pos (show j8.toInt ≠ 0 by rw [← r1]; exact z2), m2, thr_up hi]
        have U := up_i (l := s) (r := i5) ⟨by omega, by omega⟩ ⟨hi, r2.2⟩
        exact jr_loop (D := F_m12_up s i5) h6 hP ⟨r1, r2, r3⟩ g1 g2 (by rw [r1]) U.2 N 7 7 0 _ u0 (0 : Int32) L M' c0 (by omega) (by omega) (by omega) (by omega) (fun c hc => by
          rw [g3 c hc, m1 c hc, c0]; exact ⟨rfl, by omega, by omega⟩) ⟨Int.le_refl _, fun c q1 q2 q3 => by
          rw [m1 c q1, c0] at q3; omega, Or.inl rfl⟩
      · rw [if_neg z2, if_neg (show ¬ j8.toInt ≠ 0 by rw [← r1]; exact z2), show (7 : Nat) = 6 + 1 from rfl, S_x5_daysOf_j17, if_neg (show ¬ (0 : Int32).toInt ≥ n.toInt by rw [c0]; omega), if_pos sm1]
  · rw [if_neg w]
    have hu := i32_all u0
    exact jn_loop N 7 0 _ u0 (0 : Int32) (-u0.toInt) L c0 (by omega) (by omega) (by omega) (by omega) (by omega) (by omega)
