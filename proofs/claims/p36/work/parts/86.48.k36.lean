/-! PLAN: the best row of companies, on both sides -/
theorem E_x11_plan {u0 : Int32} {i3 : Int32} {i5 : Int32} {i6 : Int32} {a7 : Nat → Int32} {a13 : Nat → Int32} {a14 : Nat → Int32} {a29 : Nat → Int32} {a51 : Nat → Int32} {a52 : Nat → Int32} {a53 : Nat → Int32} {a54 : Nat → Int32} {a55 : Nat → Int32} : F_x11_plan u0 i3 i5 i6 a7 a13 a14 a29 a51 a52 a53 a54 a55 = ((F_x5_answer u0 i3 i5 i6 a7 a13 a14 a29 a51 a52 a53 a54 a55).1, (F_x5_answer u0 i3 i5 i6 a7 a13 a14 a29 a51 a52 a53 a54 a55).2.1, (F_x5_answer u0 i3 i5 i6 a7 a13 a14 a29 a51 a52 a53 a54 a55).2.2.1, (F_x5_answer u0 i3 i5 i6 a7 a13 a14 a29 a51 a52 a53 a54 a55).2.2.2.1, (F_x5_answer u0 i3 i5 i6 a7 a13 a14 a29 a51 a52 a53 a54 a55).2.2.2.2.1, (F_x5_answer u0 i3 i5 i6 a7 a13 a14 a29 a51 a52 a53 a54 a55).2.2.2.2.2.1, (F_x5_answer u0 i3 i5 i6 a7 a13 a14 a29 a51 a52 a53 a54 a55).2.2.2.2.2.2.1, (F_x5_answer u0 i3 i5 i6 a7 a13 a14 a29 a51 a52 a53 a54 a55).2.2.2.2.2.2.2) := rfl
theorem E_x5_answer {u0 : Int32} {i3 : Int32} {i5 : Int32} {i6 : Int32} {a7 : Nat → Int32} {a13 : Nat → Int32} {a14 : Nat → Int32} {a29 : Nat → Int32} {a51 : Nat → Int32} {a52 : Nat → Int32} {a53 : Nat → Int32} {a54 : Nat → Int32} {a55 : Nat → Int32} : F_x5_answer u0 i3 i5 i6 a7 a13 a14 a29 a51 a52 a53 a54 a55 = if (F_x5_daysOfCentre i5 (F_x5_gatherBooks i3 a7 a29 a51 a52 a53).1 (F_x5_gatherBooks i3 a7 a29 a51 a52 a53).2.1 (F_x5_gatherBooks i3 a7 a29 a51 a52 a53).2.2.1).toInt = (-1) then f_x5_answer_j17 u0 (F_x5_gatherBooks i3 a7 a29 a51 a52 a53).1 (F_x5_gatherBooks i3 a7 a29 a51 a52 a53).2.1 (F_x5_gatherBooks i3 a7 a29 a51 a52 a53).2.2.1 (2147483647 : Int32) (F_x5_gatherBooks i3 a7 a29 a51 a52 a53).2.2.2 a54 a55 else (f_x5_answer_j17 u0 (F_x5_gatherBooks i3 a7 a29 a51 a52 a53).1 (F_x5_gatherBooks i3 a7 a29 a51 a52 a53).2.1 (F_x5_gatherBooks i3 a7 a29 a51 a52 a53).2.2.1 (G_x5_give 6 (0 : Int32) (F_x5_daysOfCentre i5 (F_x5_gatherBooks i3 a7 a29 a51 a52 a53).1 (F_x5_gatherBooks i3 a7 a29 a51 a52 a53).2.1 (F_x5_gatherBooks i3 a7 a29 a51 a52 a53).2.2.1) i6 (F_x5_gatherBooks i3 a7 a29 a51 a52 a53).1 (2147483647 : Int32) a13 a14 (F_x5_gatherBooks i3 a7 a29 a51 a52 a53).2.1 (F_x5_gatherBooks i3 a7 a29 a51 a52 a53).2.2.1 (F_x5_gatherBooks i3 a7 a29 a51 a52 a53).2.2.2 a54 a55).1 (G_x5_give 6 (0 : Int32) (F_x5_daysOfCentre i5 (F_x5_gatherBooks i3 a7 a29 a51 a52 a53).1 (F_x5_gatherBooks i3 a7 a29 a51 a52 a53).2.1 (F_x5_gatherBooks i3 a7 a29 a51 a52 a53).2.2.1) i6 (F_x5_gatherBooks i3 a7 a29 a51 a52 a53).1 (2147483647 : Int32) a13 a14 (F_x5_gatherBooks i3 a7 a29 a51 a52 a53).2.1 (F_x5_gatherBooks i3 a7 a29 a51 a52 a53).2.2.1 (F_x5_gatherBooks i3 a7 a29 a51 a52 a53).2.2.2 a54 a55).2.1 (G_x5_give 6 (0 : Int32) (F_x5_daysOfCentre i5 (F_x5_gatherBooks i3 a7 a29 a51 a52 a53).1 (F_x5_gatherBooks i3 a7 a29 a51 a52 a53).2.1 (F_x5_gatherBooks i3 a7 a29 a51 a52 a53).2.2.1) i6 (F_x5_gatherBooks i3 a7 a29 a51 a52 a53).1 (2147483647 : Int32) a13 a14 (F_x5_gatherBooks i3 a7 a29 a51 a52 a53).2.1 (F_x5_gatherBooks i3 a7 a29 a51 a52 a53).2.2.1 (F_x5_gatherBooks i3 a7 a29 a51 a52 a53).2.2.2 a54 a55).2.2.1 (G_x5_give 6 (0 : Int32) (F_x5_daysOfCentre i5 (F_x5_gatherBooks i3 a7 a29 a51 a52 a53).1 (F_x5_gatherBooks i3 a7 a29 a51 a52 a53).2.1 (F_x5_gatherBooks i3 a7 a29 a51 a52 a53).2.2.1) i6 (F_x5_gatherBooks i3 a7 a29 a51 a52 a53).1 (2147483647 : Int32) a13 a14 (F_x5_gatherBooks i3 a7 a29 a51 a52 a53).2.1 (F_x5_gatherBooks i3 a7 a29 a51 a52 a53).2.2.1 (F_x5_gatherBooks i3 a7 a29 a51 a52 a53).2.2.2 a54 a55).2.2.2) := rfl
theorem E_x5_answer_j17 {u0 : Int32} {i33_4 : Int32} {a51_5 : Nat → Int32} {a52_6 : Nat → Int32} {i34_18 : Int32} {a53_19 : Nat → Int32} {a54_20 : Nat → Int32} {a55_21 : Nat → Int32} : f_x5_answer_j17 u0 i33_4 a51_5 a52_6 i34_18 a53_19 a54_20 a55_21 = if i34_18.toInt ≠ 2147483647 then (if u0.toInt ≠ (-1) then (if u0.toInt < 0 then ((-1 : Int32), i33_4, i34_18, a51_5, a52_6, a53_19, a54_20, a55_21) else (if u0.toInt ≥ i33_4.toInt then ((-1 : Int32), i33_4, i34_18, a51_5, a52_6, a53_19, a54_20, a55_21) else ((a55_21 u0.toNatClampNeg), i33_4, i34_18, a51_5, a52_6, a53_19, a54_20, a55_21))) else (i34_18, i33_4, i34_18, a51_5, a52_6, a53_19, a54_20, a55_21)) else ((-1 : Int32), i33_4, i34_18, a51_5, a52_6, a53_19, a54_20, a55_21) := rfl
theorem E_m12_plan {p0 : Int32} {i2 : Int32} {i4 : Int32} {i7 : Int32} {i8 : Int32} {a2 : Nat → Int32} {a8 : Nat → Int32} {a9 : Nat → Int32} {a34 : Nat → Int32} {a35 : Nat → Int32} {a64 : Nat → Int32} {a65 : Nat → Int32} {a66 : Nat → Int32} : F_m12_plan p0 i2 i4 i7 i8 a2 a8 a9 a34 a35 a64 a65 a66 = if ((F_m12_bestRow i4 i8 (F_m12_lists i2 i7 a2 a34 a35 a64 a65).1 (F_m12_lists i2 i7 a2 a34 a35 a64 a65).2.1 a8 a9 (F_m12_lists i2 i7 a2 a34 a35 a64 a65).2.2.1 (F_m12_lists i2 i7 a2 a34 a35 a64 a65).2.2.2 a66).1).toInt ≠ (-1) then (if p0.toInt ≠ (-1) then (if (F_m12_lies p0 (0 : Int32) ((F_m12_lists i2 i7 a2 a34 a35 a64 a65).1 - (1 : Int32))).toInt = 0 then ((-1 : Int32), (F_m12_lists i2 i7 a2 a34 a35 a64 a65).1, (F_m12_lists i2 i7 a2 a34 a35 a64 a65).2.1, (F_m12_lists i2 i7 a2 a34 a35 a64 a65).2.2.1, (F_m12_lists i2 i7 a2 a34 a35 a64 a65).2.2.2, (F_m12_bestRow i4 i8 (F_m12_lists i2 i7 a2 a34 a35 a64 a65).1 (F_m12_lists i2 i7 a2 a34 a35 a64 a65).2.1 a8 a9 (F_m12_lists i2 i7 a2 a34 a35 a64 a65).2.2.1 (F_m12_lists i2 i7 a2 a34 a35 a64 a65).2.2.2 a66).2) else ((F_m12_digit (F_m12_bestRow i4 i8 (F_m12_lists i2 i7 a2 a34 a35 a64 a65).1 (F_m12_lists i2 i7 a2 a34 a35 a64 a65).2.1 a8 a9 (F_m12_lists i2 i7 a2 a34 a35 a64 a65).2.2.1 (F_m12_lists i2 i7 a2 a34 a35 a64 a65).2.2.2 a66).1 p0 (6 : Int32)), (F_m12_lists i2 i7 a2 a34 a35 a64 a65).1, (F_m12_lists i2 i7 a2 a34 a35 a64 a65).2.1, (F_m12_lists i2 i7 a2 a34 a35 a64 a65).2.2.1, (F_m12_lists i2 i7 a2 a34 a35 a64 a65).2.2.2, (F_m12_bestRow i4 i8 (F_m12_lists i2 i7 a2 a34 a35 a64 a65).1 (F_m12_lists i2 i7 a2 a34 a35 a64 a65).2.1 a8 a9 (F_m12_lists i2 i7 a2 a34 a35 a64 a65).2.2.1 (F_m12_lists i2 i7 a2 a34 a35 a64 a65).2.2.2 a66).2)) else ((F_m12_daysBy (F_m12_bestRow i4 i8 (F_m12_lists i2 i7 a2 a34 a35 a64 a65).1 (F_m12_lists i2 i7 a2 a34 a35 a64 a65).2.1 a8 a9 (F_m12_lists i2 i7 a2 a34 a35 a64 a65).2.2.1 (F_m12_lists i2 i7 a2 a34 a35 a64 a65).2.2.2 a66).1 i4 i8 (F_m12_lists i2 i7 a2 a34 a35 a64 a65).1 (F_m12_lists i2 i7 a2 a34 a35 a64 a65).2.1 a8 a9 (F_m12_lists i2 i7 a2 a34 a35 a64 a65).2.2.1 (F_m12_lists i2 i7 a2 a34 a35 a64 a65).2.2.2 (F_m12_bestRow i4 i8 (F_m12_lists i2 i7 a2 a34 a35 a64 a65).1 (F_m12_lists i2 i7 a2 a34 a35 a64 a65).2.1 a8 a9 (F_m12_lists i2 i7 a2 a34 a35 a64 a65).2.2.1 (F_m12_lists i2 i7 a2 a34 a35 a64 a65).2.2.2 a66).2).1, (F_m12_lists i2 i7 a2 a34 a35 a64 a65).1, (F_m12_lists i2 i7 a2 a34 a35 a64 a65).2.1, (F_m12_lists i2 i7 a2 a34 a35 a64 a65).2.2.1, (F_m12_lists i2 i7 a2 a34 a35 a64 a65).2.2.2, (F_m12_daysBy (F_m12_bestRow i4 i8 (F_m12_lists i2 i7 a2 a34 a35 a64 a65).1 (F_m12_lists i2 i7 a2 a34 a35 a64 a65).2.1 a8 a9 (F_m12_lists i2 i7 a2 a34 a35 a64 a65).2.2.1 (F_m12_lists i2 i7 a2 a34 a35 a64 a65).2.2.2 a66).1 i4 i8 (F_m12_lists i2 i7 a2 a34 a35 a64 a65).1 (F_m12_lists i2 i7 a2 a34 a35 a64 a65).2.1 a8 a9 (F_m12_lists i2 i7 a2 a34 a35 a64 a65).2.2.1 (F_m12_lists i2 i7 a2 a34 a35 a64 a65).2.2.2 (F_m12_bestRow i4 i8 (F_m12_lists i2 i7 a2 a34 a35 a64 a65).1 (F_m12_lists i2 i7 a2 a34 a35 a64 a65).2.1 a8 a9 (F_m12_lists i2 i7 a2 a34 a35 a64 a65).2.2.1 (F_m12_lists i2 i7 a2 a34 a35 a64 a65).2.2.2 a66).2).2)) else ((-1 : Int32), (F_m12_lists i2 i7 a2 a34 a35 a64 a65).1, (F_m12_lists i2 i7 a2 a34 a35 a64 a65).2.1, (F_m12_lists i2 i7 a2 a34 a35 a64 a65).2.2.1, (F_m12_lists i2 i7 a2 a34 a35 a64 a65).2.2.2, (F_m12_bestRow i4 i8 (F_m12_lists i2 i7 a2 a34 a35 a64 a65).1 (F_m12_lists i2 i7 a2 a34 a35 a64 a65).2.1 a8 a9 (F_m12_lists i2 i7 a2 a34 a35 a64 a65).2.2.1 (F_m12_lists i2 i7 a2 a34 a35 a64 a65).2.2.2 a66).2) := rfl
theorem E_m12_bestRow {i4 : Int32} {i8 : Int32} {i28 : Int32} {i29 : Int32} {a8 : Nat → Int32} {a9 : Nat → Int32} {a64 : Nat → Int32} {a65 : Nat → Int32} {a66 : Nat → Int32} : F_m12_bestRow i4 i8 i28 i29 a8 a9 a64 a65 a66 = f_m12_bestRow_j1 i4 i8 i28 i29 a8 a9 a64 a65 46657 (-1 : Int32) (0 : Int32) (0 : Int32) a66 := rfl
theorem E_m12_rows {i28 : Int32} : F_m12_rows i28 = f_m12_rows_j1 i28 7 (1 : Int32) (0 : Int32) := rfl
theorem E_m12_isAhead {p0 : Int32} {p1 : Int32} {p2 : Int32} {p3 : Int32} : F_m12_isAhead p0 p1 p2 p3 = f_m12_isAhead_j1 p0 p1 p2 p3 7 (0 : Int32) := rfl
theorem E_m12_digit {p0 : Int32} {p1 : Int32} {p2 : Int32} : F_m12_digit p0 p1 p2 = f_m12_digit_j1 p1 p2 7 p0 (0 : Int32) := rfl
theorem S_m12_digit_j1 {p1 : Int32} {p2 : Int32} {n_ : Nat} {x_2} {x_3} : f_m12_digit_j1 p1 p2 (n_ + 1) x_2 x_3 = if x_3.toInt ≥ p1.toInt then x_2 - x_2 / p2 * p2 else ((f_m12_digit_j1 p1 p2 n_) (x_2 / p2) (x_3 + Int32.ofInt 1)) := rfl
theorem S_m12_isAhead_j1 {p0 : Int32} {p1 : Int32} {p2 : Int32} {p3 : Int32} {n_ : Nat} {x_2} : f_m12_isAhead_j1 p0 p1 p2 p3 (n_ + 1) x_2 = if x_2.toInt ≥ p2.toInt then (0 : Int32) else (if (F_m12_digit p0 x_2 p3).toInt = (F_m12_digit p1 x_2 p3).toInt then (f_m12_isAhead_j1 p0 p1 p2 p3 n_) (x_2 + Int32.ofInt 1) else (if (F_m12_digit p0 x_2 p3).toInt ≥ (F_m12_digit p1 x_2 p3).toInt then (0 : Int32) else (1 : Int32))) := rfl
theorem S_m12_rows_j1 {i28 : Int32} {n_ : Nat} {x_2} {x_3} : f_m12_rows_j1 i28 (n_ + 1) x_2 x_3 = if x_3.toInt ≥ i28.toInt then x_2 else ((f_m12_rows_j1 i28 n_) (x_2 * (6 : Int32)) (x_3 + Int32.ofInt 1)) := rfl
theorem S_m12_bestRow_j1 {i4 : Int32} {i8 : Int32} {i28 : Int32} {i29 : Int32} {a8 : Nat → Int32} {a9 : Nat → Int32} {a64 : Nat → Int32} {a65 : Nat → Int32} {n_ : Nat} {x_2} {x_4} {x_5} {a66_7} : f_m12_bestRow_j1 i4 i8 i28 i29 a8 a9 a64 a65 (n_ + 1) x_2 x_4 x_5 a66_7 = if x_5.toInt ≥ (F_m12_rows i28).toInt then (x_2, a66_7) else (if ((F_m12_daysBy x_5 i4 i8 i28 i29 a8 a9 a64 a65 a66_7).1).toInt = (-1) then (f_m12_bestRow_j1 i4 i8 i28 i29 a8 a9 a64 a65 n_) x_2 x_4 (x_5 + Int32.ofInt 1) (F_m12_daysBy x_5 i4 i8 i28 i29 a8 a9 a64 a65 a66_7).2 else (if x_2.toInt = (-1) then (f_m12_bestRow_j1 i4 i8 i28 i29 a8 a9 a64 a65 n_) x_5 (F_m12_daysBy x_5 i4 i8 i28 i29 a8 a9 a64 a65 a66_7).1 (x_5 + Int32.ofInt 1) (F_m12_daysBy x_5 i4 i8 i28 i29 a8 a9 a64 a65 a66_7).2 else (if ((F_m12_daysBy x_5 i4 i8 i28 i29 a8 a9 a64 a65 a66_7).1).toInt > x_4.toInt then (f_m12_bestRow_j1 i4 i8 i28 i29 a8 a9 a64 a65 n_) x_2 x_4 (x_5 + Int32.ofInt 1) (F_m12_daysBy x_5 i4 i8 i28 i29 a8 a9 a64 a65 a66_7).2 else (if ((F_m12_daysBy x_5 i4 i8 i28 i29 a8 a9 a64 a65 a66_7).1).toInt ≠ x_4.toInt then (f_m12_bestRow_j1 i4 i8 i28 i29 a8 a9 a64 a65 n_) x_5 (F_m12_daysBy x_5 i4 i8 i28 i29 a8 a9 a64 a65 a66_7).1 (x_5 + Int32.ofInt 1) (F_m12_daysBy x_5 i4 i8 i28 i29 a8 a9 a64 a65 a66_7).2 else (if (F_m12_isAhead x_5 x_2 i28 (6 : Int32)).toInt ≠ 0 then (f_m12_bestRow_j1 i4 i8 i28 i29 a8 a9 a64 a65 n_) x_5 (F_m12_daysBy x_5 i4 i8 i28 i29 a8 a9 a64 a65 a66_7).1 (x_5 + Int32.ofInt 1) (F_m12_daysBy x_5 i4 i8 i28 i29 a8 a9 a64 a65 a66_7).2 else ((f_m12_bestRow_j1 i4 i8 i28 i29 a8 a9 a64 a65 n_) x_2 x_4 (x_5 + Int32.ofInt 1) (F_m12_daysBy x_5 i4 i8 i28 i29 a8 a9 a64 a65 a66_7).2)))))) := rfl
theorem E_x5_give {D : Nat} {u0 u1 i6 n bs : Int32} {a13 a14 A B L W Z : Nat → Int32} : G_x5_give D u0 u1 i6 n bs a13 a14 A B L W Z = if u1.toInt < bs.toInt then (if u0.toInt < n.toInt then f_x5_give_j5 u0 u1 i6 n a13 a14 A B (G_x5_giveTo D) 7 (0 : Int32) bs L W Z else f_x5_give_j44 u1 n L W 7 (0 : Int32) Z) else (bs, L, W, Z) := rfl
theorem E_x5_giveTo {D : Nat} {u0 u1 u2 i6 n bs : Int32} {a13 a14 A B L W Z : Nat → Int32} : G_x5_giveTo (D + 1) u0 u1 u2 i6 n bs a13 a14 A B L W Z = ((G_x5_give D (u0 + (1 : Int32)) (maxI u2 (F_x5_through ((upd L u1.toNatClampNeg ((L u1.toNatClampNeg) + (A (B u0.toNatClampNeg).toNatClampNeg))) u1.toNatClampNeg) (F_x4_rateOf u1 i6 a14))) i6 n bs a13 a14 A B (upd L u1.toNatClampNeg ((L u1.toNatClampNeg) + (A (B u0.toNatClampNeg).toNatClampNeg))) (upd W u0.toNatClampNeg u1) Z).1, (upd (G_x5_give D (u0 + (1 : Int32)) (maxI u2 (F_x5_through ((upd L u1.toNatClampNeg ((L u1.toNatClampNeg) + (A (B u0.toNatClampNeg).toNatClampNeg))) u1.toNatClampNeg) (F_x4_rateOf u1 i6 a14))) i6 n bs a13 a14 A B (upd L u1.toNatClampNeg ((L u1.toNatClampNeg) + (A (B u0.toNatClampNeg).toNatClampNeg))) (upd W u0.toNatClampNeg u1) Z).2.1 u1.toNatClampNeg (((G_x5_give D (u0 + (1 : Int32)) (maxI u2 (F_x5_through ((upd L u1.toNatClampNeg ((L u1.toNatClampNeg) + (A (B u0.toNatClampNeg).toNatClampNeg))) u1.toNatClampNeg) (F_x4_rateOf u1 i6 a14))) i6 n bs a13 a14 A B (upd L u1.toNatClampNeg ((L u1.toNatClampNeg) + (A (B u0.toNatClampNeg).toNatClampNeg))) (upd W u0.toNatClampNeg u1) Z).2.1 u1.toNatClampNeg) - (A (B u0.toNatClampNeg).toNatClampNeg))), (G_x5_give D (u0 + (1 : Int32)) (maxI u2 (F_x5_through ((upd L u1.toNatClampNeg ((L u1.toNatClampNeg) + (A (B u0.toNatClampNeg).toNatClampNeg))) u1.toNatClampNeg) (F_x4_rateOf u1 i6 a14))) i6 n bs a13 a14 A B (upd L u1.toNatClampNeg ((L u1.toNatClampNeg) + (A (B u0.toNatClampNeg).toNatClampNeg))) (upd W u0.toNatClampNeg u1) Z).2.2.1, (G_x5_give D (u0 + (1 : Int32)) (maxI u2 (F_x5_through ((upd L u1.toNatClampNeg ((L u1.toNatClampNeg) + (A (B u0.toNatClampNeg).toNatClampNeg))) u1.toNatClampNeg) (F_x4_rateOf u1 i6 a14))) i6 n bs a13 a14 A B (upd L u1.toNatClampNeg ((L u1.toNatClampNeg) + (A (B u0.toNatClampNeg).toNatClampNeg))) (upd W u0.toNatClampNeg u1) Z).2.2.2) := rfl
theorem S_x5_give_j5 {u0 u1 i6 n : Int32} {a13 a14 A B : Nat → Int32} {g} {n_ : Nat} {x bs} {L W Z} : f_x5_give_j5 u0 u1 i6 n a13 a14 A B g (n_ + 1) x bs L W Z = if x.toInt ≥ i6.toInt then (bs, L, W, Z) else (if (F_x5_mayHave x (B u0.toNatClampNeg) i6 a13 a14).toInt = 0 then f_x5_give_j5 u0 u1 i6 n a13 a14 A B g n_ (x + Int32.ofInt 1) bs L W Z else f_x5_give_j5 u0 u1 i6 n a13 a14 A B g n_ (x + Int32.ofInt 1) (g u0 x u1 i6 n bs a13 a14 A B L W Z).1 (g u0 x u1 i6 n bs a13 a14 A B L W Z).2.1 (g u0 x u1 i6 n bs a13 a14 A B L W Z).2.2.1 (g u0 x u1 i6 n bs a13 a14 A B L W Z).2.2.2) := rfl
theorem S_x5_give_j44 {u1 n : Int32} {L W : Nat → Int32} {n_ : Nat} {x} {Z} : f_x5_give_j44 u1 n L W (n_ + 1) x Z = if x.toInt ≥ n.toInt then (u1, L, W, Z) else f_x5_give_j44 u1 n L W n_ (x + Int32.ofInt 1) (upd Z x.toNatClampNeg (W x.toNatClampNeg)) := rfl
section PLAN
variable {i5 i6 j8 : Int32} {a13 a14 b8 b9 A B C64 C65 : Nat → Int32} {I N : Nat} {n s : Int32} {a29 b2 : Nat → Int32}
/-- may company c have the k-th open book -/
def mv (i6 : Int32) (b8 b9 C64 : Nat → Int32) (k c : Nat) : Prop := (c : Int) < i6.toInt ∧ (b9 c).toInt ≠ 0 ∧ (F_m12_has (b8 c) (C64 k)).toInt ≠ 0
/-- the days of a row from its k-th place on -/
def RUN (i6 : Int32) (b8 b9 C64 C65 : Nat → Int32) : Nat → Nat → Int32 → (Nat → Int32) → (Nat → Nat) → Int32 → Prop
  | 0, _, d, _, _, e => e = d
  | m + 1, k, d, L, r, e => r k < 6 ∧ mv i6 b8 b9 C64 k (r k) ∧ RUN i6 b8 b9 C64 C65 m (k + 1) (maxI d (F_m12_up (L (r k) + C65 k) (b9 (r k)))) (upd L (r k) (L (r k) + C65 k)) r e
theorem RUN_congr : ∀ (m k : Nat) (d : Int32) (L L' : Nat → Int32) (r r' : Nat → Nat) (e : Int32), (∀ c, c < 6 → L c = L' c) → (∀ j, k ≤ j → r j = r' j) → RUN i6 b8 b9 C64 C65 m k d L r e → RUN i6 b8 b9 C64 C65 m k d L' r' e
  | 0, _, _, _, _, _, _, _, _, _, h => h
  | m + 1, k, d, L, L', r, r', e, hL, hr, h => by
    obtain ⟨h1, h2, h3⟩ := h
    have ek := hr k (Nat.le_refl k)
    refine ⟨by rw [← ek]; exact h1, by rw [← ek]; exact h2, ?_⟩
    rw [← ek, ← hL _ h1]
    refine RUN_congr m (k + 1) _ _ _ r r' e (fun c hc => ?_) (fun j hj => hr j (by omega)) h3
    by_cases w : c = r k
    · rw [w, upd_s, upd_s]
    · rw [upd_n w, upd_n w]; exact hL c hc
theorem RUN_le : ∀ (m k : Nat) (d : Int32) (L : Nat → Int32) (r : Nat → Nat) (e : Int32), RUN i6 b8 b9 C64 C65 m k d L r e → d.toInt ≤ e.toInt
  | 0, _, d, _, _, e, h => by
    have h : e = d := h
    rw [h]; exact Int.le_refl _
  | m + 1, k, d, L, r, e, h => by
    have h1 := RUN_le m (k + 1) _ _ _ _ h.2.2
    rw [maxI_i] at h1
    omega
theorem RUN_uniq : ∀ (m k : Nat) (d : Int32) (L : Nat → Int32) (r : Nat → Nat) (e e' : Int32), RUN i6 b8 b9 C64 C65 m k d L r e → RUN i6 b8 b9 C64 C65 m k d L r e' → e = e'
  | 0, _, d, _, _, e, e', h, h' => by
    have h : e = d := h
    have h' : e' = d := h'
    rw [h, h']
  | m + 1, k, _, _, r, e, e', h, h' => RUN_uniq m (k + 1) _ _ r e e' h.2.2 h'.2.2
theorem RUN_six : ∀ (m k : Nat) (d : Int32) (L : Nat → Int32) (r : Nat → Nat) (e : Int32), RUN i6 b8 b9 C64 C65 m k d L r e → ∀ j, k ≤ j → j < k + m → r j < 6
  | 0, k, _, _, _, _, _, j, h1, h2 => by omega
  | m + 1, k, _, _, r, e, h, j, h1, h2 => by
    by_cases w : j = k
    · rw [w]; exact h.1
    · exact RUN_six m (k + 1) _ _ r e h.2.2 j (by omega) (by omega)
/-- which row stands first -/
def LEX (k n : Nat) (r r' : Nat → Nat) : Prop := (∃ j, k ≤ j ∧ j < n ∧ (∀ i, k ≤ i → i < j → r i = r' i) ∧ r j < r' j) ∨ ∀ i, k ≤ i → i < n → r i = r' i
theorem LEX_trans {k n : Nat} {r r' r'' : Nat → Nat} (h : LEX k n r r') (g : LEX k n r' r'') : LEX k n r r'' := by
  rcases h with ⟨j, h1, h2, h3, h4⟩ | h
  · rcases g with ⟨l, g1, g2, g3, g4⟩ | g
    · rcases Nat.lt_trichotomy j l with w | w | w
      · exact Or.inl ⟨j, h1, h2, fun i q1 q2 => (h3 i q1 q2).trans (g3 i q1 (by omega)), by rw [← g3 j h1 w]; exact h4⟩
      · subst w
        exact Or.inl ⟨j, h1, h2, fun i q1 q2 => (h3 i q1 q2).trans (g3 i q1 q2), Nat.lt_trans h4 g4⟩
      · exact Or.inl ⟨l, g1, g2, fun i q1 q2 => (h3 i q1 (by omega)).trans (g3 i q1 q2), by rw [h3 l g1 w]; exact g4⟩
    · exact Or.inl ⟨j, h1, h2, fun i q1 q2 => (h3 i q1 q2).trans (g i q1 (by omega)), by rw [← g j h1 h2]; exact h4⟩
  · rcases g with ⟨l, g1, g2, g3, g4⟩ | g
    · exact Or.inl ⟨l, g1, g2, fun i q1 q2 => (h i q1 (by omega)).trans (g3 i q1 q2), by rw [h l g1 g2]; exact g4⟩
    · exact Or.inr (fun i q1 q2 => (h i q1 q2).trans (g i q1 q2))
theorem LEX_anti {k n : Nat} {r r' : Nat → Nat} (h : LEX k n r r') (g : LEX k n r' r) : ∀ i, k ≤ i → i < n → r i = r' i := by
  rcases h with ⟨j, h1, h2, h3, h4⟩ | h
  · rcases g with ⟨l, g1, g2, g3, g4⟩ | g
    · exfalso
      rcases Nat.lt_trichotomy j l with w | w | w
      · have := g3 j h1 w; omega
      · subst w; omega
      · have := h3 l g1 w; omega
    · exfalso
      have := g j h1 h2; omega
  · exact h
/-- what the search has when it comes back -/
def GSP (i6 : Int32) (b8 b9 C64 C65 : Nat → Int32) (m k : Nat) (P : (Nat → Nat) → Prop) (d : Int32) (L W : Nat → Int32) (bs : Int32) (Z : Nat → Int32) (x : Int32 × (Nat → Int32) × (Nat → Int32) × (Nat → Int32)) : Prop :=
  (∀ c, c < 6 → x.2.1 c = L c) ∧ (∀ j, j < k → x.2.2.1 j = W j) ∧
  ((x.1 = bs ∧ x.2.2.2 = Z ∧ ∀ r e, P r → RUN i6 b8 b9 C64 C65 m k d L r e → bs.toInt ≤ e.toInt) ∨
   (x.1.toInt < bs.toInt ∧ ∃ r, P r ∧ RUN i6 b8 b9 C64 C65 m k d L r x.1 ∧ (∀ j, j < k → x.2.2.2 j = W j) ∧ (∀ j, k ≤ j → j < k + m → (x.2.2.2 j).toInt = (r j : Int)) ∧
      ∀ r' e', P r' → RUN i6 b8 b9 C64 C65 m k d L r' e' → x.1.toInt < e'.toInt ∨ (x.1 = e' ∧ LEX k (k + m) r r')))
theorem gl_loop {u1 : Int32} {L W : Nat → Int32} {K : Nat} (hn : n.toInt = (K : Int)) (h6 : K ≤ 6) : ∀ (m f k : Nat) (x : Int32) (Z : Nat → Int32), x.toInt = (k : Int) → K = k + m → m < f → (∀ j, j < k → Z j = W j) → ∃ Z', f_x5_give_j44 u1 n L W f x Z = (u1, L, W, Z') ∧ ∀ j, j < K → Z' j = W j := by
  intro m
  induction m with
  | zero =>
    intro f k x Z hx hk hf hZ
    obtain ⟨f, rfl⟩ : ∃ w, f = w + 1 := ⟨f - 1, by omega⟩
    rw [S_x5_give_j44, if_pos (show x.toInt ≥ n.toInt by omega)]
    exact ⟨Z, rfl, fun j hj => hZ j (by omega)⟩
  | succ m ih =>
    intro f k x Z hx hk hf hZ
    obtain ⟨f, rfl⟩ : ∃ w, f = w + 1 := ⟨f - 1, by omega⟩
    have hz : (x + Int32.ofInt 1).toInt = ((k + 1 : Nat) : Int) := by
      have := toInt_add hx co1 (by omega) (by omega)
      omega
    rw [S_x5_give_j44, if_neg (show ¬ x.toInt ≥ n.toInt by omega), nc hx]
    refine ih f (k + 1) _ _ hz (by omega) (by omega) (fun j hj => ?_)
    by_cases w : j = k
    · rw [w, upd_s]
    · rw [upd_n w]; exact hZ j (by omega)
theorem give_of (h6 : 0 ≤ i6.toInt ∧ i6.toInt ≤ 6) (hP : PPL i6 a13 b8) (hR : RRT i5 i6 j8 a14 b9) (hn : n.toInt = (N : Int)) (hO : OPB I N a29 b2 A B C64 C65 s) : ∀ (m k D : Nat) (x d bs : Int32) (L W Z : Nat → Int32), x.toInt = (k : Int) → N = k + m → m ≤ D → GSP i6 b8 b9 C64 C65 m k (fun _ => True) d L W bs Z (G_x5_give D x d i6 n bs a13 a14 A B L W Z) := by
  intro m
  induction m with
  | zero =>
    intro k D x d bs L W Z hx hk hD
    have o1 := hO.1
    rw [E_x5_give]
    by_cases w : d.toInt < bs.toInt
    · rw [if_pos w, if_neg (show ¬ x.toInt < n.toInt by omega)]
      obtain ⟨Z', z1, z2⟩ := gl_loop (u1 := d) (L := L) (W := W) hn o1 N 7 0 (0 : Int32) Z c0 (by omega) (by omega) (fun j hj => absurd hj (Nat.not_lt_zero j))
      rw [z1]
      refine ⟨fun _ _ => rfl, fun _ _ => rfl, Or.inr ⟨w, fun _ => 0, trivial, rfl, fun j hj => z2 j (by omega), fun j h1 h2 => absurd h2 (by omega), fun r' e' _ h => Or.inr ⟨?_, Or.inr (fun i h1 h2 => absurd h2 (by omega))⟩⟩⟩
      have h : e' = d := h
      exact h.symm
    · rw [if_neg w]
      refine ⟨fun _ _ => rfl, fun _ _ => rfl, Or.inl ⟨rfl, rfl, fun r e _ h => ?_⟩⟩
      have h : e = d := h
      rw [h]; omega
  | succ m ih =>
    intro k D x d bs L W Z hx hk hD
    obtain ⟨D, rfl⟩ : ∃ w, D = w + 1 := ⟨D - 1, by omega⟩
    have o1 := hO.1
    obtain ⟨p1, p2, p3, p4, p5⟩ := hO.2.2 k (by omega)
    have hx1 : (x + (1 : Int32)).toInt = ((k + 1 : Nat) : Int) := by
      have := toInt_add hx c1 (by omega) (by omega)
      omega
    rw [E_x5_give]
    by_cases w : d.toInt < bs.toInt
    · rw [if_pos w, if_pos (show x.toInt < n.toInt by omega)]
      -- the companies one after the other
      have lp : ∀ (q f X : Nat) (y b1 : Int32) (L1 W1 Z1 : Nat → Int32), y.toInt = (X : Int) → i6.toInt = (X : Int) + q → q < f → GSP i6 b8 b9 C64 C65 (m + 1) k (fun r => r k < X) d L W bs Z (b1, L1, W1, Z1) →
          GSP i6 b8 b9 C64 C65 (m + 1) k (fun r => r k < X + q) d L W bs Z (f_x5_give_j5 x d i6 n a13 a14 A B (G_x5_giveTo (D + 1)) f y b1 L1 W1 Z1) := by
        intro q
        induction q with
        | zero =>
          intro f X y b1 L1 W1 Z1 hy hi hf h
          obtain ⟨f, rfl⟩ : ∃ w, f = w + 1 := ⟨f - 1, by omega⟩
          rw [S_x5_give_j5, if_pos (show y.toInt ≥ i6.toInt by omega)]
          exact h
        | succ q ihq =>
          intro f X y b1 L1 W1 Z1 hy hi hf h
          obtain ⟨f, rfl⟩ : ∃ w, f = w + 1 := ⟨f - 1, by omega⟩
          have hz : (y + Int32.ofInt 1).toInt = ((X + 1 : Nat) : Int) := by
            have := toInt_add hy co1 (by omega) (by omega)
            omega
          rw [S_x5_give_j5, if_neg (show ¬ y.toInt ≥ i6.toInt by omega), nc hx, p1, show X + (q + 1) = X + 1 + q by omega]
          obtain ⟨g1, g2, g3⟩ := h
          have g1 : ∀ c, c < 6 → L1 c = L c := g1
          have g2 : ∀ j, j < k → W1 j = W j := g2
          rcases may_of (k := k) hy (by omega) h6 hP hR p2 with ⟨q1, q2⟩ | ⟨q1, q2, q3, q4, q5⟩
          · rw [q1, if_pos y00]
            have nomv : ¬ mv i6 b8 b9 C64 k X := fun hm => by
              obtain ⟨m1, m2, m3⟩ := hm
              rcases q2 with t | ⟨_, t⟩ | ⟨_, _, t⟩
              · omega
              · exact m2 t
              · exact m3 t
            have skip : ∀ r e, r k < X + 1 → RUN i6 b8 b9 C64 C65 (m + 1) k d L r e → r k < X := fun r e h1 h2 => by
              by_cases t : r k = X
              · exact absurd (by have := h2.2.1; rw [t] at this; exact this) nomv
              · omega
            refine ihq f (X + 1) _ b1 L1 W1 Z1 hz (by omega) (by omega) ⟨g1, g2, ?_⟩
            rcases g3 with ⟨t1, t2, t3⟩ | ⟨t1, r, t2, t3, t4, t5, t6⟩
            · exact Or.inl ⟨t1, t2, fun r e h1 h2 => t3 r e (skip r e h1 h2) h2⟩
            · exact Or.inr ⟨t1, r, by show r k < X + 1; have : r k < X := t2; omega, t3, t4, t5, fun r' e' h1 h2 => t6 r' e' (skip r' e' h1 h2) h2⟩
          · rw [q1, if_neg n10]
            have hX6 : X < 6 := by omega
            have mvX : mv i6 b8 b9 C64 k X := ⟨by omega, q3, q4⟩
            have hr0 : 0 < (b9 X).toInt := by have := hR.2.2 X (by omega); omega
            have G := ih (k + 1) D (x + (1 : Int32)) (maxI d (F_m12_up (L1 X + C65 k) (b9 X))) b1 (upd L1 X (L1 X + C65 k)) (upd W1 k y) Z1 hx1 (by omega) (by omega)
            rw [E_x5_giveTo, nc hy, nc hx, p1, p3, upd_s, q5, thr_up hr0]
            generalize G_x5_give D (x + (1 : Int32)) (maxI d (F_m12_up (L1 X + C65 k) (b9 X))) i6 n b1 a13 a14 A B (upd L1 X (L1 X + C65 k)) (upd W1 k y) Z1 = R at G ⊢
            obtain ⟨e1, e2, e3⟩ := G
            have run : ∀ r e, r k = X → (RUN i6 b8 b9 C64 C65 (m + 1) k d L r e ↔ RUN i6 b8 b9 C64 C65 m (k + 1) (maxI d (F_m12_up (L1 X + C65 k) (b9 X))) (upd L1 X (L1 X + C65 k)) r e) := by
              intro r e hk1
              have cg : ∀ c, c < 6 → upd L X (L X + C65 k) c = upd L1 X (L1 X + C65 k) c := fun c hc => by
                by_cases t : c = X
                · rw [t, upd_s, upd_s, g1 X hX6]
                · rw [upd_n t, upd_n t, g1 c hc]
              constructor
              · rintro ⟨_, _, h3⟩
                rw [hk1] at h3
                rw [g1 X hX6]
                rw [g1 X hX6] at cg
                exact RUN_congr m (k + 1) _ _ _ r r e cg (fun _ _ => rfl) h3
              · intro h3
                refine ⟨by rw [hk1]; exact hX6, by rw [hk1]; exact mvX, ?_⟩
                rw [hk1]
                rw [g1 X hX6] at h3 cg
                exact RUN_congr m (k + 1) _ _ _ r r e (fun c hc => (cg c hc).symm) (fun _ _ => rfl) h3
            refine ihq f (X + 1) _ _ _ _ _ hz (by omega) (by omega) ⟨fun c hc => ?_, fun j hj => ?_, ?_⟩
            · show upd R.2.1 X (R.2.1 X - C65 k) c = L c
              by_cases t : c = X
              · rw [t, upd_s, e1 X hX6, upd_s, Int32.add_sub_cancel]; exact g1 X hX6
              · rw [upd_n t, e1 c hc, upd_n t]; exact g1 c hc
            · show R.2.2.1 j = W j
              rw [e2 j (by omega), upd_n (by omega)]; exact g2 j hj
            · show (R.1 = bs ∧ R.2.2.2 = Z ∧ ∀ r e, r k < X + 1 → RUN i6 b8 b9 C64 C65 (m + 1) k d L r e → bs.toInt ≤ e.toInt) ∨ (R.1.toInt < bs.toInt ∧ ∃ r, r k < X + 1 ∧ RUN i6 b8 b9 C64 C65 (m + 1) k d L r R.1 ∧ (∀ j, j < k → R.2.2.2 j = W j) ∧ (∀ j, k ≤ j → j < k + (m + 1) → (R.2.2.2 j).toInt = (r j : Int)) ∧ ∀ r' e', r' k < X + 1 → RUN i6 b8 b9 C64 C65 (m + 1) k d L r' e' → R.1.toInt < e'.toInt ∨ (R.1 = e' ∧ LEX k (k + (m + 1)) r r'))
              have old : b1.toInt ≤ bs.toInt ∧ ∀ r' e', r' k < X → RUN i6 b8 b9 C64 C65 (m + 1) k d L r' e' → b1.toInt ≤ e'.toInt := by
                rcases g3 with ⟨t1, t2, t3⟩ | ⟨t1, r, t2, t3, t4, t5, t6⟩
                · have t1 : b1 = bs := t1
                  rw [t1]; exact ⟨Int.le_refl _, t3⟩
                · have t1 : b1.toInt < bs.toInt := t1
                  refine ⟨by omega, fun r' e' h1 h2 => ?_⟩
                  rcases t6 r' e' h1 h2 with v | ⟨v, -⟩
                  · have v : b1.toInt < e'.toInt := v
                    omega
                  · have v : b1 = e' := v
                    rw [v]; exact Int.le_refl _
              rcases e3 with ⟨v1, v2, v3⟩ | ⟨v1, r2, -, v3, v4, v5, v6⟩
              · have new : ∀ r e, r k = X → RUN i6 b8 b9 C64 C65 (m + 1) k d L r e → b1.toInt ≤ e.toInt := fun r e h1 h2 => v3 r e trivial ((run r e h1).mp h2)
                rcases g3 with ⟨t1, t2, t3⟩ | ⟨t1, r, t2, t3, t4, t5, t6⟩
                · have t1 : b1 = bs := t1
                  refine Or.inl ⟨v1.trans t1, v2.trans t2, fun r e h1 h2 => ?_⟩
                  by_cases t : r k = X
                  · rw [← t1]; exact new r e t h2
                  · exact t3 r e (by show r k < X; omega) h2
                · have t1 : b1.toInt < bs.toInt := t1
                  have t2 : r k < X := t2
                  refine Or.inr ⟨by rw [v1]; exact t1, r, by omega, by rw [v1]; exact t3, fun j hj => by rw [v2]; exact t4 j hj, fun j h1 h2 => by rw [v2]; exact t5 j h1 h2, fun r' e' h1 h2 => ?_⟩
                  rw [v1]
                  by_cases t : r' k = X
                  · have le := new r' e' t h2
                    by_cases eq : b1.toInt < e'.toInt
                    · exact Or.inl eq
                    · exact Or.inr ⟨eq_of_toInt (by omega), Or.inl ⟨k, Nat.le_refl k, by omega, fun i q1 q2 => absurd q1 (by omega), by omega⟩⟩
                  · exact t6 r' e' (by show r' k < X; omega) h2
              · refine Or.inr ⟨by omega, fun j => if j = k then X else r2 j, by show (if k = k then X else r2 k) < X + 1; rw [if_pos rfl]; omega, ?_, fun j hj => ?_, fun j h1 h2 => ?_, fun r' e' h1 h2 => ?_⟩
                · refine (run _ _ (by show (if k = k then X else r2 k) = X; rw [if_pos rfl])).mpr ?_
                  exact RUN_congr m (k + 1) _ _ _ r2 _ R.1 (fun _ _ => rfl) (fun j hj => by show r2 j = if j = k then X else r2 j; rw [if_neg (by omega)]) v3
                · rw [v4 j (by omega), upd_n (by omega)]; exact g2 j hj
                · show (R.2.2.2 j).toInt = (((if j = k then X else r2 j) : Nat) : Int)
                  by_cases t : j = k
                  · rw [if_pos t, t, v4 k (by omega), upd_s]; exact hy
                  · rw [if_neg t]; exact v5 j (by omega) (by omega)
                · by_cases t : r' k = X
                  · rcases v6 r' e' trivial ((run r' e' t).mp h2) with u | ⟨u, u2⟩
                    · exact Or.inl u
                    · refine Or.inr ⟨u, ?_⟩
                      rcases u2 with ⟨j, j1, j2, j3, j4⟩ | u2
                      · refine Or.inl ⟨j, by omega, by omega, fun i q1 q2 => ?_, ?_⟩
                        · show (if i = k then X else r2 i) = r' i
                          by_cases ti : i = k
                          · rw [if_pos ti, ti, t]
                          · rw [if_neg ti]; exact j3 i (by omega) q2
                        · show (if j = k then X else r2 j) < r' j
                          rw [if_neg (by omega)]; exact j4
                      · refine Or.inr (fun i q1 q2 => ?_)
                        show (if i = k then X else r2 i) = r' i
                        by_cases ti : i = k
                        · rw [if_pos ti, ti, t]
                        · rw [if_neg ti]; exact u2 i (by omega) (by omega)
                  · have le := old.2 r' e' (by omega) h2
                    exact Or.inl (by omega)
      have L0 := lp i6.toInt.toNat 7 0 (0 : Int32) bs L W Z c0 (by omega) (by omega) ⟨fun _ _ => rfl, fun _ _ => rfl, Or.inl ⟨rfl, rfl, fun r e h1 _ => absurd h1 (Nat.not_lt_zero _)⟩⟩
      -- all companies are gone through
      have all : ∀ r e, RUN i6 b8 b9 C64 C65 (m + 1) k d L r e → r k < 0 + i6.toInt.toNat := fun r e h => by
        have := h.2.1.1
        omega
      obtain ⟨g1, g2, g3⟩ := L0
      refine ⟨g1, g2, ?_⟩
      rcases g3 with ⟨t1, t2, t3⟩ | ⟨t1, r, t2, t3, t4, t5, t6⟩
      · exact Or.inl ⟨t1, t2, fun r e _ h => t3 r e (all r e h) h⟩
      · exact Or.inr ⟨t1, r, trivial, t3, t4, t5, fun r' e' _ h => t6 r' e' (all r' e' h) h⟩
    · rw [if_neg w]
      refine ⟨fun _ _ => rfl, fun _ _ => rfl, Or.inl ⟨rfl, rfl, fun r e _ h => ?_⟩⟩
      have := RUN_le _ _ _ _ _ _ h
      omega
/-- a row's number and its places -/
def DIG : Nat → Nat → Nat → (Nat → Nat) → Prop
  | 0, _, p, _ => p = 0
  | m + 1, k, p, r => r k = p % 6 ∧ DIG m (k + 1) (p / 6) r
def dg (p k : Nat) : Nat := p / 6 ^ k % 6
theorem DIG_dg {p : Nat} : ∀ (m k : Nat), p / 6 ^ k < 6 ^ m → DIG m k (p / 6 ^ k) (dg p)
  | 0, k, h => by
    have h : p / 6 ^ k < 1 := h
    show p / 6 ^ k = 0
    exact Nat.lt_one_iff.mp h
  | m + 1, k, h => by
    have e : p / 6 ^ k / 6 = p / 6 ^ (k + 1) := by rw [Nat.pow_succ, Nat.div_div_eq_div_mul]
    refine ⟨rfl, ?_⟩
    rw [e]
    refine DIG_dg m (k + 1) ?_
    rw [← e]
    rw [Nat.pow_succ] at h
    exact Nat.div_lt_of_lt_mul (by omega)
theorem DIG_uniq : ∀ (m k p : Nat) (r r' : Nat → Nat), DIG m k p r → DIG m k p r' → ∀ j, k ≤ j → j < k + m → r j = r' j
  | 0, k, p, r, r', _, _, j, h1, h2 => by omega
  | m + 1, k, p, r, r', h, h', j, h1, h2 => by
    by_cases w : j = k
    · rw [w, h.1, h'.1]
    · exact DIG_uniq m (k + 1) (p / 6) r r' h.2 h'.2 j (by omega) (by omega)
theorem DIG_ex (r : Nat → Nat) : ∀ (m k : Nat), (∀ j, k ≤ j → j < k + m → r j < 6) → ∃ p, p < 6 ^ m ∧ DIG m k p r
  | 0, k, _ => ⟨0, by decide, rfl⟩
  | m + 1, k, h => by
    obtain ⟨p, h1, h2⟩ := DIG_ex r m (k + 1) (fun j j1 j2 => h j (by omega) (by omega))
    have hk := h k (Nat.le_refl k) (by omega)
    refine ⟨6 * p + r k, by rw [Nat.pow_succ]; omega, by omega, ?_⟩
    rw [show (6 * p + r k) / 6 = p by omega]
    exact h2
theorem dig_loop {k : Nat} {K : Int32} (hK : K.toInt = (k : Int)) (h6 : k ≤ 6) : ∀ (m f j p : Nat) (x y : Int32), y.toInt = (j : Int) → k = j + m → m < f → x.toInt = (p : Int) → (f_m12_digit_j1 K (6 : Int32) f x y).toInt = ((p / 6 ^ m % 6 : Nat) : Int) := by
  intro m
  induction m with
  | zero =>
    intro f j p x y hy hk hf hx
    obtain ⟨f, rfl⟩ : ∃ w, f = w + 1 := ⟨f - 1, by omega⟩
    rw [S_m12_digit_j1, if_pos (show y.toInt ≥ K.toInt by omega), Nat.pow_zero, Nat.div_one]
    have := toInt_remm hx c6_ (by omega) (by omega)
    omega
  | succ m ih =>
    intro f j p x y hy hk hf hx
    obtain ⟨f, rfl⟩ : ∃ w, f = w + 1 := ⟨f - 1, by omega⟩
    have hz : (y + Int32.ofInt 1).toInt = ((j + 1 : Nat) : Int) := by
      have := toInt_add hy co1 (by omega) (by omega)
      omega
    have hq : (x / (6 : Int32)).toInt = ((p / 6 : Nat) : Int) := by
      have := toInt_divc hx c6_ (by omega) (by omega)
      omega
    rw [S_m12_digit_j1, if_neg (show ¬ y.toInt ≥ K.toInt by omega), ih f (j + 1) (p / 6) _ _ hz (by omega) (by omega) hq, Nat.pow_succ, Nat.mul_comm, Nat.div_div_eq_div_mul]
theorem dig_of {k p : Nat} {K x : Int32} (hK : K.toInt = (k : Int)) (h6 : k ≤ 6) (hx : x.toInt = (p : Int)) : (F_m12_digit x K (6 : Int32)).toInt = (dg p k : Int) := by
  rw [E_m12_digit]
  exact dig_loop hK h6 k 7 0 p x 0 c0 (by omega) (by omega) hx
theorem ah_loop {x y : Int32} {P Q : Nat} (hx : x.toInt = (P : Int)) (hy : y.toInt = (Q : Int)) (hn : n.toInt = (N : Int)) (h6 : N ≤ 6) : ∀ (m f X : Nat) (z : Int32), z.toInt = (X : Int) → N = X + m → m < f → (∀ i, i < X → dg P i = dg Q i) →
    ((f_m12_isAhead_j1 x y n (6 : Int32) f z).toInt ≠ 0 ∧ LEX 0 N (dg P) (dg Q)) ∨ ((f_m12_isAhead_j1 x y n (6 : Int32) f z).toInt = 0 ∧ LEX 0 N (dg Q) (dg P)) := by
  intro m
  induction m with
  | zero =>
    intro f X z hz hk hf he
    obtain ⟨f, rfl⟩ : ∃ w, f = w + 1 := ⟨f - 1, by omega⟩
    rw [S_m12_isAhead_j1, if_pos (show z.toInt ≥ n.toInt by omega)]
    exact Or.inr ⟨c0, Or.inr (fun i _ h => (he i (by omega)).symm)⟩
  | succ m ih =>
    intro f X z hz hk hf he
    obtain ⟨f, rfl⟩ : ∃ w, f = w + 1 := ⟨f - 1, by omega⟩
    have hz1 : (z + Int32.ofInt 1).toInt = ((X + 1 : Nat) : Int) := by
      have := toInt_add hz co1 (by omega) (by omega)
      omega
    have d1 := dig_of (K := z) hz (by omega) hx
    have d2 := dig_of (K := z) hz (by omega) hy
    rw [S_m12_isAhead_j1, if_neg (show ¬ z.toInt ≥ n.toInt by omega), d1, d2]
    by_cases w : (dg P X : Int) = (dg Q X : Int)
    · rw [if_pos w]
      refine ih f (X + 1) _ hz1 (by omega) (by omega) (fun i hi => ?_)
      by_cases t : i = X
      · rw [t]; omega
      · exact he i (by omega)
    · rw [if_neg w]
      by_cases w2 : (dg P X : Int) ≥ (dg Q X : Int)
      · rw [if_pos w2]
        exact Or.inr ⟨c0, Or.inl ⟨X, Nat.zero_le _, by omega, fun i _ hi => (he i hi).symm, by omega⟩⟩
      · rw [if_neg w2]
        exact Or.inl ⟨y10, Or.inl ⟨X, Nat.zero_le _, by omega, fun i _ hi => he i hi, by omega⟩⟩
theorem rows_of (hn : n.toInt = (N : Int)) (h6 : N ≤ 6) : (F_m12_rows n).toInt = ((6 ^ N : Nat) : Int) := by
  have lp : ∀ (m f k : Nat) (y x : Int32), x.toInt = (k : Int) → N = k + m → m < f → y.toInt = ((6 ^ k : Nat) : Int) → (f_m12_rows_j1 n f y x).toInt = ((6 ^ N : Nat) : Int) := by
    intro m
    induction m with
    | zero =>
      intro f k y x hx hk hf hy
      obtain ⟨f, rfl⟩ : ∃ w, f = w + 1 := ⟨f - 1, by omega⟩
      rw [S_m12_rows_j1, if_pos (show x.toInt ≥ n.toInt by omega), hy, show N = k by omega]
    | succ m ih =>
      intro f k y x hx hk hf hy
      obtain ⟨f, rfl⟩ : ∃ w, f = w + 1 := ⟨f - 1, by omega⟩
      have hz : (x + Int32.ofInt 1).toInt = ((k + 1 : Nat) : Int) := by
        have := toInt_add hx co1 (by omega) (by omega)
        omega
      have b : 6 ^ k ≤ 6 ^ 5 := Nat.pow_le_pow_right (by decide) (by omega)
      have b5 : (6 : Nat) ^ 5 = 7776 := by decide
      rw [S_m12_rows_j1, if_neg (show ¬ x.toInt ≥ n.toInt by omega)]
      refine ih f (k + 1) _ _ hz (by omega) (by omega) ?_
      have e : (6 : Nat) ^ (k + 1) = 6 ^ k * 6 := Nat.pow_succ 6 k
      rw [e]
      generalize (6 : Nat) ^ k = q at *
      exact toInt_mul hy c6_ (by omega) (by omega) (by omega)
  rw [E_m12_rows]
  exact lp N 7 0 (1 : Int32) 0 c0 (by omega) (by omega) (by rw [c1]; rfl)
/-- the reference's days of a row -/
theorem dby_loop {D : Int32} (h6 : 0 ≤ i6.toInt ∧ i6.toInt ≤ 6) (hR : RRT i5 i6 j8 a14 b9) (hn : n.toInt = (N : Int)) (hO : OPB I N a29 b2 A B C64 C65 s) (hD : D = F_m12_up s j8) (hD0 : 0 ≤ D.toInt) : ∀ (m g k p : Nat) (d rest x : Int32) (M : Nat → Int32) (r : Nat → Nat), x.toInt = (k : Int) → N = k + m → m < g → rest.toInt = (p : Int) → DIG m k p r → (∀ c, c < 6 → 0 ≤ (M c).toInt ∧ (M c).toInt ≤ 60 * (k : Int)) → ISM i6 b9 M 6 D.toInt d.toInt →
    (((f_m12_daysBy_j12 i6 j8 n s b8 b9 C64 C65 g rest x M).1 = (-1 : Int32) ∧ ∀ e, ¬ RUN i6 b8 b9 C64 C65 m k d M r e) ∨ RUN i6 b8 b9 C64 C65 m k d M r (f_m12_daysBy_j12 i6 j8 n s b8 b9 C64 C65 g rest x M).1) := by
  obtain ⟨o1, o2, o3⟩ := hO
  intro m
  induction m with
  | zero =>
    intro g k p d rest x M r hx hm hg hp hd hM hS
    obtain ⟨g, rfl⟩ : ∃ w, g = w + 1 := ⟨g - 1, by omega⟩
    have hp0 : p = 0 := hd
    rw [S_m12_daysBy_j12, if_pos (show x.toInt ≥ n.toInt by omega), if_pos (show rest.toInt ≤ 0 by omega), ← hD]
    obtain ⟨z, z1, z2⟩ := jm_loop (i6 := i6) (b9 := b9) (L := M) (D := D.toInt) h6.2 i6.toInt.toNat 7 0 (0 : Int32) D c0 (by omega) (by omega) ⟨Int.le_refl _, fun c q => absurd q (Nat.not_lt_zero c), Or.inl rfl⟩
    have z3 : ISM i6 b9 M 6 D.toInt z.toInt := by
      obtain ⟨g1, g2, g3⟩ := z2
      refine ⟨g1, fun c q1 q2 q3 => g2 c (by omega) q2 q3, ?_⟩
      rcases g3 with q | ⟨c, q1, q2, q3, q4⟩
      · exact Or.inl q
      · exact Or.inr ⟨c, by omega, q2, q3, q4⟩
    rw [z1]
    exact Or.inr (show z = d from eq_of_toInt (ISM_uniq z3 hS))
  | succ m ih =>
    intro g k p d rest x M r hx hm hg hp hd hM hS
    obtain ⟨g, rfl⟩ : ∃ w, g = w + 1 := ⟨g - 1, by omega⟩
    have hz : (x + Int32.ofInt 1).toInt = ((k + 1 : Nat) : Int) := by
      have := toInt_add hx co1 (by omega) (by omega)
      omega
    have er : (rest - rest / (6 : Int32) * (6 : Int32)).toInt = ((p % 6 : Nat) : Int) := by
      have := toInt_remm hp c6_ (by omega) (by omega)
      omega
    have eq : (rest / (6 : Int32)).toInt = ((p / 6 : Nat) : Int) := by
      have := toInt_divc hp c6_ (by omega) (by omega)
      omega
    obtain ⟨p1, p2, p3, p4, p5⟩ := o3 k (by omega)
    obtain ⟨d1, d2⟩ := hd
    rw [S_m12_daysBy_j12, if_neg (show ¬ x.toInt ≥ n.toInt by omega), nc hx]
    generalize rest - rest / (6 : Int32) * (6 : Int32) = c at er ⊢
    rw [nc er, ← d1]
    have hk6 : r k < 6 := by omega
    have hc : c.toInt = (r k : Int) := by omega
    have no : ¬ mv i6 b8 b9 C64 k (r k) → ∀ e, ¬ RUN i6 b8 b9 C64 C65 (m + 1) k d M r e := fun h e q => h q.2.1
    by_cases w1 : c.toInt ≥ i6.toInt
    · rw [if_pos w1]
      exact Or.inl ⟨rfl, no (fun q => by have := q.1; omega)⟩
    · rw [if_neg w1]
      by_cases w2 : (b9 (r k)).toInt = 0
      · rw [if_pos w2]
        exact Or.inl ⟨rfl, no (fun q => q.2.1 w2)⟩
      · rw [if_neg w2]
        by_cases w3 : (F_m12_has (b8 (r k)) (C64 k)).toInt ≠ 0
        · rw [if_pos w3]
          obtain ⟨m1, m2⟩ := hM (r k) hk6
          obtain ⟨r1, r2, r3⟩ := hR.2.2 (r k) (by omega)
          have sum := toInt_add (x := M (r k)) (y := C65 k) rfl rfl (by omega) (by omega)
          have IH := ih g (k + 1) (p / 6) (maxI d (F_m12_up (M (r k) + C65 k) (b9 (r k)))) (rest / (6 : Int32)) (x + Int32.ofInt 1) (upd M (r k) (M (r k) + C65 k)) r hz (by omega) (by omega) eq d2 (fun e he => by
            by_cases t : e = r k
            · rw [t, upd_s, sum]; omega
            · rw [upd_n t]
              have := hM e he
              omega) (ISM_put hS hk6 (by omega) ⟨by omega, r3⟩ m1 p4 sum (by omega))
          rcases IH with ⟨t1, t2⟩ | t
          · exact Or.inl ⟨t1, fun e q => t2 e q.2.2⟩
          · exact Or.inr ⟨hk6, ⟨by omega, w2, w3⟩, t⟩
        · rw [if_neg w3]
          exact Or.inl ⟨rfl, no (fun q => w3 q.2.2)⟩
def Z0f : Nat → Int32 := fun _ => 0
/-- the days of the row with number p -/
def VV (i6 : Int32) (b8 b9 C64 C65 : Nat → Int32) (N : Nat) (D : Int32) (p : Nat) (e : Int32) : Prop := RUN i6 b8 b9 C64 C65 N 0 D Z0f (dg p) e
theorem days_by {D x : Int32} {p : Nat} {M : Nat → Int32} (h6 : 0 ≤ i6.toInt ∧ i6.toInt ≤ 6) (hR : RRT i5 i6 j8 a14 b9) (hn : n.toInt = (N : Int)) (hO : OPB I N a29 b2 A B C64 C65 s) (hD : (N = 0 ∧ D = 0) ∨ (1 ≤ N ∧ j8.toInt ≠ 0 ∧ D = F_m12_up s j8)) (hD0 : 0 ≤ D.toInt) (hx : x.toInt = (p : Int)) (hp : p < 6 ^ N) :
    ((F_m12_daysBy x i6 j8 n s b8 b9 C64 C65 M).1 = (-1 : Int32) ∧ ∀ e, ¬ VV i6 b8 b9 C64 C65 N D p e) ∨ VV i6 b8 b9 C64 C65 N D p (F_m12_daysBy x i6 j8 n s b8 b9 C64 C65 M).1 := by
  rw [E_m12_daysBy]
  rcases hD with ⟨z1, z2⟩ | ⟨z1, z2, z3⟩
  · subst z1
    have hp : p < 1 := hp
    rw [if_neg (show ¬ n.toInt ≠ 0 by omega), if_neg (show ¬ x.toInt ≠ 0 by omega)]
    exact Or.inr z2.symm
  · obtain ⟨M', m1, m2⟩ := j5_zero (i6 := i6) (j8 := j8) (n := n) (s' := s) (b8 := b8) (b9 := b9) (C64 := C64) (C65 := C65) (p := x) 6 7 0 (0 : Int32) M c0 rfl (by omega) (fun c hc => absurd hc (Nat.not_lt_zero c))
    have dd := DIG_dg (p := p) N 0 (by rw [Nat.pow_zero, Nat.div_one]; exact hp)
    rw [Nat.pow_zero, Nat.div_one] at dd
    rw [if_pos (show n.toInt ≠ 0 by omega), if_pos z2, m2]
    have cg : ∀ c, c < 6 → M' c = Z0f c := fun c hc => m1 c hc
    rcases dby_loop h6 hR hn hO z3 hD0 N 7 0 p D x (0 : Int32) M' (dg p) c0 (by omega) (by have := hO.1; omega) hx dd (fun c hc => by rw [m1 c hc, c0]; omega) ⟨Int.le_refl _, fun c q1 q2 q3 => by
      rw [m1 c q1, c0] at q3; omega, Or.inl rfl⟩ with ⟨t1, t2⟩ | t
    · exact Or.inl ⟨t1, fun e q => t2 e (RUN_congr N 0 _ _ _ _ _ e (fun c hc => (cg c hc).symm) (fun _ _ => rfl) q)⟩
    · exact Or.inr (RUN_congr N 0 _ _ _ _ _ _ cg (fun _ _ => rfl) t)
/-- the reference's best row -/
def BST (i6 : Int32) (b8 b9 C64 C65 : Nat → Int32) (N : Nat) (D : Int32) (X : Nat) (bs dy : Int32) : Prop :=
  (bs.toInt = -1 ∧ ∀ p e, p < X → ¬ VV i6 b8 b9 C64 C65 N D p e) ∨ (∃ q, q < X ∧ bs.toInt = (q : Int) ∧ VV i6 b8 b9 C64 C65 N D q dy ∧ ∀ p e, p < X → VV i6 b8 b9 C64 C65 N D p e → dy.toInt < e.toInt ∨ (dy = e ∧ LEX 0 N (dg q) (dg p)))
theorem best_loop {D : Int32} (h6 : 0 ≤ i6.toInt ∧ i6.toInt ≤ 6) (hR : RRT i5 i6 j8 a14 b9) (hn : n.toInt = (N : Int)) (hO : OPB I N a29 b2 A B C64 C65 s) (hD : (N = 0 ∧ D = 0) ∨ (1 ≤ N ∧ j8.toInt ≠ 0 ∧ D = F_m12_up s j8)) (hD0 : 0 ≤ D.toInt) : ∀ (m f X : Nat) (bs dy x : Int32) (M : Nat → Int32), x.toInt = (X : Int) → X + m = 6 ^ N → 6 ^ N ≤ 46656 → m < f → BST i6 b8 b9 C64 C65 N D X bs dy →
    ∃ bs' dy' M', f_m12_bestRow_j1 i6 j8 n s b8 b9 C64 C65 f bs dy x M = (bs', M') ∧ BST i6 b8 b9 C64 C65 N D (6 ^ N) bs' dy' := by
  have o1 := hO.1
  have hr := rows_of hn o1
  intro m
  induction m with
  | zero =>
    intro f X bs dy x M hx hm h4 hf hB
    obtain ⟨f, rfl⟩ : ∃ w, f = w + 1 := ⟨f - 1, by omega⟩
    rw [S_m12_bestRow_j1, if_pos (show x.toInt ≥ (F_m12_rows n).toInt by omega)]
    exact ⟨bs, dy, M, rfl, by rw [← show X = 6 ^ N by omega]; exact hB⟩
  | succ m ih =>
    intro f X bs dy x M hx hm h4 hf hB
    obtain ⟨f, rfl⟩ : ∃ w, f = w + 1 := ⟨f - 1, by omega⟩
    have hz : (x + Int32.ofInt 1).toInt = ((X + 1 : Nat) : Int) := by
      have := toInt_add hx co1 (by omega) (by omega)
      omega
    have V := days_by (b8 := b8) (x := x) (p := X) (M := M) h6 hR hn hO hD hD0 hx (by omega)
    rw [S_m12_bestRow_j1, if_neg (show ¬ x.toInt ≥ (F_m12_rows n).toInt by omega)]
    generalize F_m12_daysBy x i6 j8 n s b8 b9 C64 C65 M = R at V ⊢
    have skip : (∀ e, VV i6 b8 b9 C64 C65 N D X e → bs.toInt ≠ -1 ∧ ∀ q : Nat, bs.toInt = (q : Int) → dy.toInt < e.toInt ∨ (dy = e ∧ LEX 0 N (dg q) (dg X))) → BST i6 b8 b9 C64 C65 N D (X + 1) bs dy := by
      intro h
      rcases hB with ⟨t1, t2⟩ | ⟨q, t1, t2, t3, t4⟩
      · refine Or.inl ⟨t1, fun p e hp hv => ?_⟩
        by_cases w : p = X
        · rw [w] at hv; exact (h e hv).1 t1
        · exact t2 p e (by omega) hv
      · refine Or.inr ⟨q, by omega, t2, t3, fun p e hp hv => ?_⟩
        by_cases w : p = X
        · rw [w] at hv ⊢; exact (h e hv).2 q t2
        · exact t4 p e (by omega) hv
    have take : VV i6 b8 b9 C64 C65 N D X R.1 → (∀ q : Nat, bs.toInt = (q : Int) → R.1.toInt < dy.toInt ∨ (R.1 = dy ∧ LEX 0 N (dg X) (dg q))) → BST i6 b8 b9 C64 C65 N D (X + 1) x R.1 := by
      intro hv h
      refine Or.inr ⟨X, by omega, hx, hv, fun p e hp hv2 => ?_⟩
      by_cases w : p = X
      · rw [w] at hv2 ⊢
        exact Or.inr ⟨RUN_uniq _ _ _ _ _ _ _ hv hv2, Or.inr (fun _ _ _ => rfl)⟩
      · rcases hB with ⟨t1, t2⟩ | ⟨q, t1, t2, t3, t4⟩
        · exact absurd hv2 (t2 p e (by omega))
        · have a := h q t2
          have b := t4 p e (by omega) hv2
          rcases a with a | ⟨a, a2⟩
          · rcases b with b | ⟨b, -⟩
            · exact Or.inl (by omega)
            · exact Or.inl (by rw [← b]; exact a)
          · rcases b with b | ⟨b, b2⟩
            · exact Or.inl (by rw [a]; exact b)
            · exact Or.inr ⟨a.trans b, LEX_trans a2 b2⟩
    rcases V with ⟨v1, v2⟩ | v
    · rw [v1, if_pos sm1]
      exact ih f (X + 1) bs dy _ _ hz (by omega) h4 (by omega) (skip (fun e he => absurd he (v2 e)))
    · have vd := RUN_le _ _ _ _ _ _ v
      rw [if_neg (show ¬ R.1.toInt = -1 by omega)]
      have uq : ∀ e, VV i6 b8 b9 C64 C65 N D X e → e = R.1 := fun e he => RUN_uniq _ _ _ _ _ _ _ he v
      by_cases w1 : bs.toInt = -1
      · rw [if_pos w1]
        exact ih f (X + 1) x R.1 _ _ hz (by omega) h4 (by omega) (take v (fun q hq => by omega))
      · rw [if_neg w1]
        by_cases w2 : R.1.toInt > dy.toInt
        · rw [if_pos w2]
          exact ih f (X + 1) bs dy _ _ hz (by omega) h4 (by omega) (skip (fun e he => ⟨w1, fun q _ => Or.inl (by rw [uq e he]; omega)⟩))
        · rw [if_neg w2]
          by_cases w3 : R.1.toInt ≠ dy.toInt
          · rw [if_pos w3]
            exact ih f (X + 1) x R.1 _ _ hz (by omega) h4 (by omega) (take v (fun q hq => Or.inl (by omega)))
          · have e1 : R.1 = dy := eq_of_toInt (by omega)
            obtain ⟨q, hq⟩ : ∃ q : Nat, bs.toInt = (q : Int) := by
              rcases hB with ⟨t1, -⟩ | ⟨q, -, t2, -⟩
              · exact absurd t1 w1
              · exact ⟨q, t2⟩
            have ah := ah_loop hx hq hn o1 N 7 0 (0 : Int32) c0 (by omega) (by omega) (fun i hi => absurd hi (Nat.not_lt_zero i))
            rw [if_neg w3, E_m12_isAhead]
            rcases ah with ⟨a1, a2⟩ | ⟨a1, a2⟩
            · rw [if_pos a1]
              refine ih f (X + 1) x R.1 _ _ hz (by omega) h4 (by omega) (take v (fun q' hq' => Or.inr ⟨e1, ?_⟩))
              rw [show q' = q by omega]; exact a2
            · rw [if_neg (fun h => h a1)]
              refine ih f (X + 1) bs dy _ _ hz (by omega) h4 (by omega) (skip (fun e he => ⟨w1, fun q' hq' => Or.inr ⟨(by rw [uq e he]; exact e1.symm), ?_⟩⟩))
              rw [show q' = q by omega]; exact a2
theorem RUN_up (h6 : i6.toInt ≤ 6) (hR : RRT i5 i6 j8 a14 b9) (hO : OPB I N a29 b2 A B C64 C65 s) : ∀ (m k : Nat) (d : Int32) (L : Nat → Int32) (r : Nat → Nat) (e : Int32), N = k + m → d.toInt ≤ 2000 → (∀ c, c < 6 → 0 ≤ (L c).toInt ∧ (L c).toInt ≤ 60 * (k : Int)) → RUN i6 b8 b9 C64 C65 m k d L r e → e.toInt ≤ 2000
  | 0, _, d, _, _, e, _, hd, _, h => by
    have h : e = d := h
    rw [h]; exact hd
  | m + 1, k, d, L, r, e, hk, hd, hL, h => by
    obtain ⟨h1, h2, h3⟩ := h
    obtain ⟨o1, o2, o3⟩ := hO
    obtain ⟨p1, p2, p3, p4, p5⟩ := o3 k (by omega)
    obtain ⟨l1, l2⟩ := hL (r k) h1
    obtain ⟨r1, r2, r3⟩ := hR.2.2 (r k) h2.1
    have hb := h2.2.1
    have sum := toInt_add (x := L (r k)) (y := C65 k) rfl rfl (by omega) (by omega)
    have u := up_i (l := L (r k) + C65 k) (r := b9 (r k)) ⟨by omega, by omega⟩ ⟨by omega, r3⟩
    have u2 : (F_m12_up (L (r k) + C65 k) (b9 (r k))).toInt ≤ (L (r k) + C65 k).toInt + (b9 (r k)).toInt - 1 := by
      rw [u.1]; exact Int.ediv_le_self _ (by omega)
    refine RUN_up h6 hR ⟨o1, o2, o3⟩ m (k + 1) _ _ r e (by omega) (by rw [maxI_i]; omega) (fun c hc => ?_) h3
    by_cases w : c = r k
    · rw [w, upd_s, sum]; omega
    · rw [upd_n w]
      have := hL c hc
      omega
end PLAN
theorem R_plan {u0 i3 i5 i6 i10 j8 : Int32} {a7 a13 a14 a29 a51 a52 a53 a54 a55 b2 b8 b9 b34 b35 b64 b65 b66 : Nat → Int32} (h3 : 0 ≤ i3.toInt ∧ i3.toInt ≤ 60) (h6 : 0 ≤ i6.toInt ∧ i6.toInt ≤ 6) (h10 : 0 ≤ i10.toInt ∧ i10.toInt ≤ 200) (hX : FXD i10 a29 b34 b35) (hV : VRS i3 a7 b2) (hP : PPL i6 a13 b8) (hR : RRT i5 i6 j8 a14 b9) :
    (F_x11_plan u0 i3 i5 i6 a7 a13 a14 a29 a51 a52 a53 a54 a55).1 = (F_m12_plan u0 i3 i6 i10 j8 b2 b8 b9 b34 b35 b64 b65 b66).1 := by
  obtain ⟨I, N, n, s, A, L, B, C64, C65, g1, g2, g3, g4, g5⟩ := gather_of (a51 := a51) (a52 := a52) (a53 := a53) (b64 := b64) (b65 := b65) h3 h10 hX hV
  have hN := g2.1
  have b6 : (6 : Nat) ^ N ≤ 6 ^ 6 := Nat.pow_le_pow_right (by decide) hN
  have b66' : (6 : Nat) ^ 6 = 46656 := by decide
  have far : (2147483647 : Int32).toInt = 2147483647 := by decide
  have ec := jc_loop (i5 := i5) g1 g2 N 7 0 (0 : Int32) (0 : Int32) c0 (by omega) (by omega) c0
  have ed : F_x5_daysOfCentre i5 n A B = f_x5_daysOfCentre_j1 i5 n A B 7 (0 : Int32) (0 : Int32) := rfl
  rw [← ed] at ec
  have sp := sm_pos N (fun k hk => (g2.2.2 k hk).2.2.2)
  have hs := g2.2.1
  rw [E_x11_plan, E_x5_answer, E_m12_plan, g4, g5]
  show (if (F_x5_daysOfCentre i5 n A B).toInt = (-1) then f_x5_answer_j17 u0 n A B (2147483647 : Int32) L a54 a55 else f_x5_answer_j17 u0 n A B (G_x5_give 6 (0 : Int32) (F_x5_daysOfCentre i5 n A B) i6 n (2147483647 : Int32) a13 a14 A B L a54 a55).1 (G_x5_give 6 (0 : Int32) (F_x5_daysOfCentre i5 n A B) i6 n (2147483647 : Int32) a13 a14 A B L a54 a55).2.1 (G_x5_give 6 (0 : Int32) (F_x5_daysOfCentre i5 n A B) i6 n (2147483647 : Int32) a13 a14 A B L a54 a55).2.2.1 (G_x5_give 6 (0 : Int32) (F_x5_daysOfCentre i5 n A B) i6 n (2147483647 : Int32) a13 a14 A B L a54 a55).2.2.2).1 =
    (if ((F_m12_bestRow i6 j8 n s b8 b9 C64 C65 b66).1).toInt ≠ (-1) then (if u0.toInt ≠ (-1) then (if (F_m12_lies u0 (0 : Int32) (n - (1 : Int32))).toInt = 0 then ((-1 : Int32), n, s, C64, C65, (F_m12_bestRow i6 j8 n s b8 b9 C64 C65 b66).2) else ((F_m12_digit (F_m12_bestRow i6 j8 n s b8 b9 C64 C65 b66).1 u0 (6 : Int32)), n, s, C64, C65, (F_m12_bestRow i6 j8 n s b8 b9 C64 C65 b66).2)) else ((F_m12_daysBy (F_m12_bestRow i6 j8 n s b8 b9 C64 C65 b66).1 i6 j8 n s b8 b9 C64 C65 (F_m12_bestRow i6 j8 n s b8 b9 C64 C65 b66).2).1, n, s, C64, C65, (F_m12_daysBy (F_m12_bestRow i6 j8 n s b8 b9 C64 C65 b66).1 i6 j8 n s b8 b9 C64 C65 (F_m12_bestRow i6 j8 n s b8 b9 C64 C65 b66).2).2)) else ((-1 : Int32), n, s, C64, C65, (F_m12_bestRow i6 j8 n s b8 b9 C64 C65 b66).2)).1
  -- days of the centre
  have D0 : ((F_x5_daysOfCentre i5 n A B).toInt = -1 ∧ 1 ≤ N ∧ j8.toInt = 0) ∨ (0 ≤ (F_x5_daysOfCentre i5 n A B).toInt ∧ (F_x5_daysOfCentre i5 n A B).toInt ≤ 2000 ∧ ((N = 0 ∧ F_x5_daysOfCentre i5 n A B = 0) ∨ (1 ≤ N ∧ j8.toInt ≠ 0 ∧ F_x5_daysOfCentre i5 n A B = F_m12_up s j8))) := by
    rw [ec]
    obtain ⟨r1, r2, r3⟩ := hR
    by_cases z : N = 0
    · rw [if_neg (show ¬ s.toInt ≠ 0 by omega)]
      exact Or.inr ⟨by decide, by decide, Or.inl ⟨z, rfl⟩⟩
    · rw [if_pos (show s.toInt ≠ 0 by omega)]
      by_cases z2 : i5.toInt ≠ 0
      · have hi : 0 < i5.toInt := by omega
        have U := up_i (l := s) (r := i5) ⟨by omega, by omega⟩ ⟨hi, r2.2⟩
        have U2 : (F_m12_up s i5).toInt ≤ s.toInt + i5.toInt - 1 := by rw [U.1]; exact Int.ediv_le_self _ (by omega)
        rw [if_pos z2, thr_up hi]
        exact Or.inr ⟨U.2, by omega, Or.inr ⟨by omega, by rw [← r1]; exact z2, by rw [r1]⟩⟩
      · rw [if_neg z2]
        exact Or.inl ⟨sm1, by omega, by rw [← r1]; omega⟩
  generalize F_x5_daysOfCentre i5 n A B = D at D0 ⊢
  rcases D0 with ⟨d1, d2, d3⟩ | ⟨d1, d2, d3⟩
  · rw [if_pos d1, E_x5_answer_j17, if_neg (show ¬ (2147483647 : Int32).toInt ≠ 2147483647 from fun h => h far)]
    -- no row on the reference's side either
    have nb : ∀ (m f X : Nat) (x : Int32) (M : Nat → Int32), x.toInt = (X : Int) → X + m = 6 ^ N → m < f → (f_m12_bestRow_j1 i6 j8 n s b8 b9 C64 C65 f (-1 : Int32) (0 : Int32) x M).1 = (-1 : Int32) := by
      have hr := rows_of g1 hN
      intro m
      induction m with
      | zero =>
        intro f X x M hx hm hf
        obtain ⟨f, rfl⟩ : ∃ w, f = w + 1 := ⟨f - 1, by omega⟩
        rw [S_m12_bestRow_j1, if_pos (show x.toInt ≥ (F_m12_rows n).toInt by omega)]
      | succ m ih =>
        intro f X x M hx hm hf
        obtain ⟨f, rfl⟩ : ∃ w, f = w + 1 := ⟨f - 1, by omega⟩
        have hz : (x + Int32.ofInt 1).toInt = ((X + 1 : Nat) : Int) := by
          have := toInt_add hx co1 (by omega) (by omega)
          omega
        have e : F_m12_daysBy x i6 j8 n s b8 b9 C64 C65 M = ((-1 : Int32), M) := by
          rw [E_m12_daysBy, if_pos (show n.toInt ≠ 0 by omega), if_neg (show ¬ j8.toInt ≠ 0 by omega)]
        rw [S_m12_bestRow_j1, if_neg (show ¬ x.toInt ≥ (F_m12_rows n).toInt by omega), e, if_pos sm1]
        exact ih f (X + 1) _ _ hz (by omega) (by omega)
    have e := nb (6 ^ N) 46657 0 (0 : Int32) b66 c0 (by omega) (by omega)
    rw [← E_m12_bestRow] at e
    rw [e, if_neg (fun h => h sm1)]
  · rw [if_neg (show ¬ D.toInt = -1 by omega)]
    obtain ⟨q1, q2, q3⟩ := give_of h6 hP hR g1 g2 N 0 6 (0 : Int32) D (2147483647 : Int32) L a54 a55 c0 (by omega) hN
    generalize G_x5_give 6 (0 : Int32) D i6 n (2147483647 : Int32) a13 a14 A B L a54 a55 = R at q1 q2 q3 ⊢
    obtain ⟨bs, dy, M', m1, m2⟩ := best_loop (I := I) h6 hR g1 g2 d3 d1 (6 ^ N) 46657 0 (-1 : Int32) (0 : Int32) (0 : Int32) b66 c0 (by omega) (by omega) (by omega) (Or.inl ⟨sm1, fun p e hp => absurd hp (Nat.not_lt_zero p)⟩)
    rw [← E_m12_bestRow] at m1
    have up := RUN_up (b8 := b8) (I := I) h6.2 hR g2 N 0 D L
    have zL : ∀ c, c < 6 → L c = Z0f c := fun c hc => g3 c hc
    have bL : ∀ c, c < 6 → 0 ≤ (L c).toInt ∧ (L c).toInt ≤ 60 * ((0 : Nat) : Int) := fun c hc => by rw [g3 c hc, c0]; omega
    -- a row of places has a number
    have num : ∀ r e, RUN i6 b8 b9 C64 C65 N 0 D L r e → ∃ p, p < 6 ^ N ∧ VV i6 b8 b9 C64 C65 N D p e ∧ ∀ j, j < N → dg p j = r j := by
      intro r e h
      have s6 := RUN_six N 0 D L r e h
      obtain ⟨p, p1, p2⟩ := DIG_ex r N 0 s6
      have dd := DIG_dg (p := p) N 0 (by rw [Nat.pow_zero, Nat.div_one]; exact p1)
      rw [Nat.pow_zero, Nat.div_one] at dd
      have same := DIG_uniq N 0 p _ _ dd p2
      have ag : ∀ j, j < N → dg p j = r j := fun j hj => same j (Nat.zero_le j) (by omega)
      refine ⟨p, p1, ?_, ag⟩
      have h' : RUN i6 b8 b9 C64 C65 N 0 D L (fun j => if j < N then r j else dg p j) e := by
        have gen : ∀ (m k : Nat) (d : Int32) (L : Nat → Int32), N = k + m → RUN i6 b8 b9 C64 C65 m k d L r e → RUN i6 b8 b9 C64 C65 m k d L (fun j => if j < N then r j else dg p j) e := by
          intro m
          induction m with
          | zero => intro k d L _ h; exact h
          | succ m ih =>
            intro k d L hk h
            obtain ⟨h1, h2, h3⟩ := h
            have ek : (fun j => if j < N then r j else dg p j) k = r k := by show (if k < N then r k else dg p k) = r k; rw [if_pos (by omega)]
            refine ⟨by rw [ek]; exact h1, by rw [ek]; exact h2, ?_⟩
            rw [ek]
            exact ih (k + 1) _ _ (by omega) h3
        exact gen N 0 D L (by omega) h
      refine RUN_congr N 0 D L Z0f _ (dg p) e zL (fun j _ => ?_) h'
      show (if j < N then r j else dg p j) = dg p j
      by_cases w : j < N
      · rw [if_pos w]; exact (ag j w).symm
      · rw [if_neg w]
    rw [m1]
    show _ = (if bs.toInt ≠ (-1) then (if u0.toInt ≠ (-1) then (if (F_m12_lies u0 (0 : Int32) (n - (1 : Int32))).toInt = 0 then ((-1 : Int32), n, s, C64, C65, M') else ((F_m12_digit bs u0 (6 : Int32)), n, s, C64, C65, M')) else ((F_m12_daysBy bs i6 j8 n s b8 b9 C64 C65 M').1, n, s, C64, C65, (F_m12_daysBy bs i6 j8 n s b8 b9 C64 C65 M').2)) else ((-1 : Int32), n, s, C64, C65, M')).1
    rw [E_x5_answer_j17]
    rcases q3 with ⟨t1, t2, t3⟩ | ⟨t1, r, -, t3, t4, t5, t6⟩
    · rw [t1, if_neg (fun h => h far)]
      rcases m2 with ⟨v1, v2⟩ | ⟨q, v1, v2, v3, v4⟩
      · rw [if_neg (fun h => h v1)]
      · exfalso
        have h := RUN_congr N 0 D Z0f L _ (dg q) dy (fun c hc => (zL c hc).symm) (fun _ _ => rfl) v3
        have := t3 (dg q) dy trivial h
        have := up (dg q) dy (by omega) d2 bL h
        omega
    · have le := up r R.1 (by omega) d2 bL t3
      obtain ⟨p, p1, p2, p3⟩ := num r R.1 t3
      rw [if_pos (show R.1.toInt ≠ 2147483647 by omega)]
      rcases m2 with ⟨v1, v2⟩ | ⟨q, v1, v2, v3, v4⟩
      · exact absurd p2 (v2 p R.1 p1)
      · rw [if_pos (show bs.toInt ≠ -1 by omega)]
        have hq := RUN_congr N 0 D Z0f L _ (dg q) dy (fun c hc => (zL c hc).symm) (fun _ _ => rfl) v3
        have a := t6 (dg q) dy trivial hq
        have b := v4 p R.1 p1 p2
        have both : R.1 = dy ∧ LEX 0 (0 + N) r (dg q) ∧ LEX 0 N (dg q) (dg p) := by
          rcases a with a | ⟨a, a2⟩
          · rcases b with b | ⟨b, -⟩
            · omega
            · rw [b] at a; omega
          · rcases b with b | ⟨b, b2⟩
            · rw [a] at b; omega
            · exact ⟨a, a2, b2⟩
        obtain ⟨e1, l1, l2⟩ := both
        rw [Nat.zero_add] at l1
        have l3 : LEX 0 N (dg q) r := LEX_trans l2 (Or.inr (fun i _ h => p3 i h))
        have same := LEX_anti l1 l3
        have dq := days_by (b8 := b8) (x := bs) (p := q) (M := M') (I := I) h6 hR g1 g2 d3 d1 v2 v1
        by_cases w : u0.toInt ≠ (-1)
        · rw [if_pos w, if_pos w]
          have e1n : (n - 1).toInt = n.toInt - 1 := by have := toInt_sub (x := n) rfl c1 (by omega) (by omega); omega
          rcases mlie (u := u0) c0 e1n with ⟨k1, kk⟩ | ⟨k1, kk⟩
          · obtain ⟨j, hj⟩ : ∃ j : Nat, u0.toInt = (j : Int) := ⟨u0.toInt.toNat, by omega⟩
            rw [kk, if_neg n10, if_neg (show ¬ u0.toInt < 0 by omega), if_neg (show ¬ u0.toInt ≥ n.toInt by omega), nc hj]
            show R.2.2.2 j = F_m12_digit bs u0 (6 : Int32)
            refine eq_of_toInt ?_
            rw [t5 j (Nat.zero_le j) (by omega), dig_of hj (by omega) v2, same j (Nat.zero_le j) (by omega)]
          · rw [kk, if_pos y00]
            by_cases w2 : u0.toInt < 0
            · rw [if_pos w2]
            · rw [if_neg w2, if_pos (show u0.toInt ≥ n.toInt by omega)]
        · rw [if_neg w, if_neg w]
          show R.1 = (F_m12_daysBy bs i6 j8 n s b8 b9 C64 C65 M').1
          rcases dq with ⟨x1, x2⟩ | x
          · exact absurd v3 (x2 dy)
          · rw [e1]; exact RUN_uniq _ _ _ _ _ _ _ v3 x
