section MST
variable {i10 i9 i11 i14 i15 i16 i17 x c : Int32} {a1 a : Nat → Int32} {n m : Nat}
theorem gb_j2 (hc : (F_m12_here i9 i10 a1).toInt = 124) : F_m12_goesBehind i9 i10 i11 i14 i15 i16 a1 a = ((1 : Int32), i9 + 1, i11, i14, F_m12_joins 1 i15 a + 1, i16, upd a (F_m12_joins 1 i15 a).toNatClampNeg (F_m12_here i9 i10 a1)) := by
  have e0 : F_m12_goesBehind i9 i10 i11 i14 i15 i16 a1 a = if (F_m12_here i9 i10 a1).toInt = 38 then f_m12_goesBehind_b_89 i9 i11 i14 i15 i16 a (F_m12_here i9 i10 a1) else if (F_m12_here i9 i10 a1).toInt ≠ 124 then f_m12_goesBehind_b_92 i9 i11 i14 i15 i16 a (F_m12_here i9 i10 a1) else if (F_m12_here i9 i10 a1).toInt ≠ 124 then f_m12_goesBehind_b_12 i9 i11 i14 i15 i16 a (F_m12_here i9 i10 a1) else ((1 : Int32), i9 + 1, i11, i14, F_m12_joins 1 i15 a + 1, i16, upd a (F_m12_joins 1 i15 a).toNatClampNeg (F_m12_here i9 i10 a1)) := rfl
  rw [e0, if_neg (by omega), if_neg (by omega), if_neg (by omega)]
theorem gb_r (hc : (F_m12_here i9 i10 a1).toInt = 41) : F_m12_goesBehind i9 i10 i11 i14 i15 i16 a1 a = if (F_m12_joins 1 i15 a - 1).toInt ≠ 0 then ((0 : Int32), i9 + 1, i11, (F_m12_ends (i14 - 1) (F_m12_joins 1 i15 a - 1) a).1, (F_m12_ends (i14 - 1) (F_m12_joins 1 i15 a - 1) a).2, (0 : Int32), a) else ((0 : Int32), i9 + 1, i11, i14 - 1, F_m12_joins 1 i15 a - 1, (1 : Int32), a) := by
  have e0 : F_m12_goesBehind i9 i10 i11 i14 i15 i16 a1 a = if (F_m12_here i9 i10 a1).toInt = 38 then f_m12_goesBehind_b_89 i9 i11 i14 i15 i16 a (F_m12_here i9 i10 a1) else if (F_m12_here i9 i10 a1).toInt ≠ 124 then (if (F_m12_here i9 i10 a1).toInt = 41 then (if (F_m12_joins 1 i15 a - 1).toInt ≠ 0 then ((0 : Int32), i9 + 1, i11, (F_m12_ends (i14 - 1) (F_m12_joins 1 i15 a - 1) a).1, (F_m12_ends (i14 - 1) (F_m12_joins 1 i15 a - 1) a).2, (0 : Int32), a) else ((0 : Int32), i9 + 1, i11, i14 - 1, F_m12_joins 1 i15 a - 1, (1 : Int32), a)) else f_m12_goesBehind_b_154 i9 i11 i14 i15 i16 a) else f_m12_goesBehind_b_163 i9 i11 i14 i15 i16 a (F_m12_here i9 i10 a1) := rfl
  rw [e0, if_neg (by omega), if_pos (show (F_m12_here i9 i10 a1).toInt ≠ 124 by omega), if_pos hc]
theorem gb_x (h1 : (F_m12_here i9 i10 a1).toInt ≠ 38) (h2 : (F_m12_here i9 i10 a1).toInt ≠ 124) (h3 : (F_m12_here i9 i10 a1).toInt ≠ 41) : F_m12_goesBehind i9 i10 i11 i14 i15 i16 a1 a = ((0 : Int32), i9, F_m12_fails 1 i9 i11, i14, i15, i16, a) := by
  have e0 : F_m12_goesBehind i9 i10 i11 i14 i15 i16 a1 a = if (F_m12_here i9 i10 a1).toInt = 38 then f_m12_goesBehind_b_89 i9 i11 i14 i15 i16 a (F_m12_here i9 i10 a1) else if (F_m12_here i9 i10 a1).toInt ≠ 124 then (if (F_m12_here i9 i10 a1).toInt = 41 then f_m12_goesBehind_b_94 i9 i11 i14 i15 a else ((0 : Int32), i9, F_m12_fails 1 i9 i11, i14, i15, i16, a)) else f_m12_goesBehind_b_163 i9 i11 i14 i15 i16 a (F_m12_here i9 i10 a1) := rfl
  rw [e0, if_neg h1, if_pos h2, if_neg h3]
theorem CB_bad {t : P6} (h : t.2.1.toInt ≠ 0) : (CB i10 a1 (n + 1) t).2.1 = t.2.1 := by
  unfold CB
  rw [good0 h, if_pos y00]
  exact CL_bad h
theorem CB_good {t : P6} (h : t.2.1.toInt = 0) : CB i10 a1 n t = GB i10 a1 n t.1 t.2.1 t.2.2.1 t.2.2.2.1 t.2.2.2.2.1 t.2.2.2.2.2 := by
  unfold CB
  rw [good1 h, if_neg n10]
theorem pp_e : f_m12_piece_j1 i10 a1 (m + 1) i9 i11 i14 i15 a = if (F_m12_isGood i11).toInt = 0 then f_m12_piece_b_22 i10 a1 i9 i11 i14 i15 a else if (F_m12_here i9 i10 a1).toInt = 33 then f_m12_piece_j1 i10 a1 m (F_m12_opens i9 i10 i11 i14 i15 a1 a).1 (F_m12_opens i9 i10 i11 i14 i15 a1 a).2.1 (F_m12_opens i9 i10 i11 i14 i15 a1 a).2.2.1 (F_m12_opens i9 i10 i11 i14 i15 a1 a).2.2.2.1 (F_m12_opens i9 i10 i11 i14 i15 a1 a).2.2.2.2 else if (F_m12_here i9 i10 a1).toInt ≠ 40 then f_m12_piece_b_227 i10 a1 i9 i11 i14 i15 a else f_m12_piece_j1 i10 a1 m (F_m12_opens i9 i10 i11 i14 i15 a1 a).1 (F_m12_opens i9 i10 i11 i14 i15 a1 a).2.1 (F_m12_opens i9 i10 i11 i14 i15 a1 a).2.2.1 (F_m12_opens i9 i10 i11 i14 i15 a1 a).2.2.2.1 (F_m12_opens i9 i10 i11 i14 i15 a1 a).2.2.2.2 := rfl
end MST
