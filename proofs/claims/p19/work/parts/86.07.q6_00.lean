/-! the reference's conditions -/
def GB (i10 : Int32) (a1 : Nat → Int32) (n : Nat) (i9 i11 i14 i15 i17 : Int32) (a : Nat → Int32) : P7 := f_m12_condition_b_142 i10 a1 0 (f_m12_condition_j25 i10 a1 n) i9 i11 i14 i15 i17 a
def CB (i10 : Int32) (a1 : Nat → Int32) (n : Nat) (t : P6) : P7 := if (F_m12_isGood t.2.1).toInt = 0 then f_m12_condition_b_141 1 0 (f_m12_condition_j25 i10 a1 n) t.1 t.2.1 t.2.2.1 t.2.2.2.1 t.2.2.2.2.1 t.2.2.2.2.2 else GB i10 a1 n t.1 t.2.1 t.2.2.1 t.2.2.2.1 t.2.2.2.2.1 t.2.2.2.2.2
def QP (i10 : Int32) (a1 : Nat → Int32) (m n : Nat) (i9 i11 i14 i15 : Int32) (a : Nat → Int32) : P7 := CB i10 a1 n (f_m12_piece_j1 i10 a1 m i9 i11 i14 i15 a)
def clt (i10 : Int32) (a1 : Nat → Int32) (n : Nat) (i17 : Int32) (t : P7) : P7 := f_m12_condition_j25 i10 a1 n t.1 t.2.1 t.2.2.1 t.2.2.2.1 t.2.2.2.2.1 t.2.2.2.2.2.1 i17 t.2.2.2.2.2.2
section MST
variable {i10 i9 i11 i14 i15 i16 i17 x c : Int32} {a1 a : Nat → Int32} {n m : Nat}
theorem CL_bad (h : i11.toInt ≠ 0) : (f_m12_condition_j25 i10 a1 (n + 1) x i9 i11 i14 i15 i16 i17 a).2.1 = i11 := by
  have e0 : f_m12_condition_j25 i10 a1 (n + 1) x i9 i11 i14 i15 i16 i17 a = if (F_m12_isGood i11).toInt = 0 then (i9, i11, i14, i15, i16, i17, a) else f_m12_condition_b_59 i10 a1 x i9 i11 i14 i15 i16 i17 a (f_m12_condition_j25 i10 a1 n) := rfl
  rw [e0, good0 h, if_pos y00]
theorem CL_1 (h : i11.toInt = 0) : f_m12_condition_j25 i10 a1 (n + 1) 1 i9 i11 i14 i15 0 i17 a = QP i10 a1 180 n i9 i11 i14 i15 a := by
  have e0 : f_m12_condition_j25 i10 a1 (n + 1) 1 i9 i11 i14 i15 0 i17 a = if (F_m12_isGood i11).toInt = 0 then (i9, i11, i14, i15, 0, i17, a) else if (0 : Int32).toInt ≠ 0 then (i9, i11, i14, i15, 0, i17, a) else if (1 : Int32).toInt = 0 then f_m12_condition_b_64 i10 a1 i9 i11 i14 i15 0 i17 a (f_m12_condition_j25 i10 a1 n) else QP i10 a1 180 n i9 i11 i14 i15 a := rfl
  rw [e0, good1 h, if_neg n10, if_neg n00, if_neg n10]
theorem CL_0 (h : i11.toInt = 0) : f_m12_condition_j25 i10 a1 (n + 1) 0 i9 i11 i14 i15 0 i17 a = GB i10 a1 n i9 i11 i14 i15 i17 a := by
  have e0 : f_m12_condition_j25 i10 a1 (n + 1) 0 i9 i11 i14 i15 0 i17 a = if (F_m12_isGood i11).toInt = 0 then (i9, i11, i14, i15, 0, i17, a) else if (0 : Int32).toInt ≠ 0 then (i9, i11, i14, i15, 0, i17, a) else if (0 : Int32).toInt = 0 then GB i10 a1 n i9 i11 i14 i15 i17 a else f_m12_condition_b_104 i10 a1 0 i9 i11 i14 i15 0 a (f_m12_condition_j25 i10 a1 n) := rfl
  rw [e0, good1 h, if_neg n10, if_neg n00, if_pos y00]
theorem CL_d (h : i11.toInt = 0) : f_m12_condition_j25 i10 a1 (n + 1) x i9 i11 i14 i15 1 i17 a = (i9, i11, i14, i15, 1, i17, a) := by
  have e0 : f_m12_condition_j25 i10 a1 (n + 1) x i9 i11 i14 i15 1 i17 a = if (F_m12_isGood i11).toInt = 0 then (i9, i11, i14, i15, 1, i17, a) else if (1 : Int32).toInt ≠ 0 then (i9, i11, i14, i15, 1, i17, a) else f_m12_condition_b_62 i10 a1 x i9 i11 i14 i15 1 i17 a (f_m12_condition_j25 i10 a1 n) := rfl
  rw [e0, good1 h, if_neg n10, if_pos y10]
theorem GB_e : GB i10 a1 n i9 i11 i14 i15 i17 a = clt i10 a1 n i17 (F_m12_goesBehind i9 i10 i11 i14 i15 0 a1 a) := rfl
theorem gb_j1 (hc : (F_m12_here i9 i10 a1).toInt = 38) : F_m12_goesBehind i9 i10 i11 i14 i15 i16 a1 a = ((1 : Int32), i9 + 1, i11, i14, F_m12_joins 0 i15 a + 1, i16, upd a (F_m12_joins 0 i15 a).toNatClampNeg (F_m12_here i9 i10 a1)) := by
  have e0 : F_m12_goesBehind i9 i10 i11 i14 i15 i16 a1 a = if (F_m12_here i9 i10 a1).toInt = 38 then (if (F_m12_here i9 i10 a1).toInt ≠ 124 then ((1 : Int32), i9 + 1, i11, i14, F_m12_joins 0 i15 a + 1, i16, upd a (F_m12_joins 0 i15 a).toNatClampNeg (F_m12_here i9 i10 a1)) else f_m12_goesBehind_b_50 i9 i11 i14 i15 i16 a (F_m12_here i9 i10 a1)) else f_m12_goesBehind_b_90 i9 i11 i14 i15 i16 a (F_m12_here i9 i10 a1) := rfl
  rw [e0, if_pos hc, if_pos (by omega)]
end MST
