noncomputable def P_x3_readTerm (d : Nat) : Int32 → Int32 → Int32 → Int32 → Int32 → (Nat → Int32) → Int32 × Int32 × Int32 × Int32 := (GT_x3_T d).2.1
noncomputable def G_x3_readTerm (d : Nat) : Int32 → Int32 → Int32 → Int32 → Int32 → (Nat → Int32) → Int32 × Int32 × Int32 × Int32 := L_x3_readTerm (GT_x3_T d)
theorem P_x3_readTerm_pred {d : Nat} (h : 1 ≤ d) : P_x3_readTerm d = G_x3_readTerm (d - 1) := by
  cases d with
  | zero => omega
  | succ d =>
    show (GT_x3_T (d + 1)).2.1 = L_x3_readTerm (GT_x3_T d)
    rw [GT_x3_T_s]
noncomputable def P_x3_readSum (d : Nat) : Int32 → Int32 → Int32 → Int32 → Int32 → (Nat → Int32) → Int32 × Int32 × Int32 × Int32 := (GT_x3_T d).2.2.1
noncomputable def G_x3_readSum (d : Nat) : Int32 → Int32 → Int32 → Int32 → Int32 → (Nat → Int32) → Int32 × Int32 × Int32 × Int32 := L_x3_readSum (GT_x3_T d)
theorem P_x3_readSum_pred {d : Nat} (h : 1 ≤ d) : P_x3_readSum d = G_x3_readSum (d - 1) := by
  cases d with
  | zero => omega
  | succ d =>
    show (GT_x3_T (d + 1)).2.2.1 = L_x3_readSum (GT_x3_T d)
    rw [GT_x3_T_s]
noncomputable def P_x3_readPiece (d : Nat) : Int32 → Int32 → Int32 → Int32 → Int32 → (Nat → Int32) → Int32 × Int32 × Int32 × Int32 := (GT_x3_T d).2.2.2.1
noncomputable def G_x3_readPiece (d : Nat) : Int32 → Int32 → Int32 → Int32 → Int32 → (Nat → Int32) → Int32 × Int32 × Int32 × Int32 := L_x3_readPiece (GT_x3_T d)
theorem P_x3_readPiece_pred {d : Nat} (h : 1 ≤ d) : P_x3_readPiece d = G_x3_readPiece (d - 1) := by
  cases d with
  | zero => omega
  | succ d =>
    show (GT_x3_T (d + 1)).2.2.2.1 = L_x3_readPiece (GT_x3_T d)
    rw [GT_x3_T_s]
noncomputable def P_x3_readPart (d : Nat) : Int32 → Int32 → Int32 → Int32 → Int32 → (Nat → Int32) → Int32 × Int32 × Int32 × Int32 := (GT_x3_T d).2.2.2.2.1
noncomputable def G_x3_readPart (d : Nat) : Int32 → Int32 → Int32 → Int32 → Int32 → (Nat → Int32) → Int32 × Int32 × Int32 × Int32 := L_x3_readPart (GT_x3_T d)
theorem P_x3_readPart_pred {d : Nat} (h : 1 ≤ d) : P_x3_readPart d = G_x3_readPart (d - 1) := by
  cases d with
  | zero => omega
  | succ d =>
    show (GT_x3_T (d + 1)).2.2.2.2.1 = L_x3_readPart (GT_x3_T d)
    rw [GT_x3_T_s]
noncomputable def P_x3_readCondition (d : Nat) : Int32 → Int32 → Int32 → Int32 → Int32 → (Nat → Int32) → Int32 × Int32 × Int32 × Int32 := (GT_x3_T d).2.2.2.2.2
noncomputable def G_x3_readCondition (d : Nat) : Int32 → Int32 → Int32 → Int32 → Int32 → (Nat → Int32) → Int32 × Int32 × Int32 × Int32 := L_x3_readCondition (GT_x3_T d)
theorem P_x3_readCondition_pred {d : Nat} (h : 1 ≤ d) : P_x3_readCondition d = G_x3_readCondition (d - 1) := by
  cases d with
  | zero => omega
  | succ d =>
    show (GT_x3_T (d + 1)).2.2.2.2.2 = L_x3_readCondition (GT_x3_T d)
    rw [GT_x3_T_s]
noncomputable def f_x3_readTail_b_28 (a22_11 : Nat → Int32) (a26_12 : Nat → Int32) (i13_18 : Int32) (i14_19 : Int32) (i15_20 : Int32) : Int32 × Int32 × Int32 × Int32 × (Nat → Int32) × (Nat → Int32) :=
  ((0 : Int32), i13_18, i14_19, i15_20, a22_11, a26_12)
noncomputable def f_x3_readTail_b_43 (a22_11 : Nat → Int32) (a26_12 : Nat → Int32) (i13_34 : Int32) (i14_35 : Int32) (i15_36 : Int32) : Int32 × Int32 × Int32 × Int32 × (Nat → Int32) × (Nat → Int32) :=
  ((0 : Int32), i13_34, i14_35, i15_36, a22_11, a26_12)
noncomputable def f_x3_readTail_b_45 (a22_11 : Nat → Int32) (a26_12 : Nat → Int32) (i13_34 : Int32) (i14_35 : Int32) (i15_36 : Int32) : Int32 × Int32 × Int32 × Int32 × (Nat → Int32) × (Nat → Int32) :=
  ((1 : Int32), i13_34, i14_35, i15_36, a22_11, a26_12)
noncomputable def f_x3_readTail_b_30 (i12 : Int32) (a1 : Nat → Int32) (a22_11 : Nat → Int32) (a26_12 : Nat → Int32) (i13_18 : Int32) (i14_19 : Int32) (i15_20 : Int32) : Int32 × Int32 × Int32 × Int32 × (Nat → Int32) × (Nat → Int32) :=
  let v_31 : Int32 := (F_x3_pass (41 : Int32) i12 i13_18 i14_19 i15_20 a1).1
  let i13_34 : Int32 := (F_x3_pass (41 : Int32) i12 i13_18 i14_19 i15_20 a1).2.1
  let i14_35 : Int32 := (F_x3_pass (41 : Int32) i12 i13_18 i14_19 i15_20 a1).2.2.1
  let i15_36 : Int32 := (F_x3_pass (41 : Int32) i12 i13_18 i14_19 i15_20 a1).2.2.2
  if v_31.toInt = 0 then (f_x3_readTail_b_43 a22_11 a26_12 i13_34 i14_35 i15_36) else (f_x3_readTail_b_45 a22_11 a26_12 i13_34 i14_35 i15_36)
noncomputable def f_x3_readTail_b_26 (i12 : Int32) (a1 : Nat → Int32) (a22_11 : Nat → Int32) (a26_12 : Nat → Int32) (v_15 : Int32) (i13_18 : Int32) (i14_19 : Int32) (i15_20 : Int32) : Int32 × Int32 × Int32 × Int32 × (Nat → Int32) × (Nat → Int32) :=
  if v_15.toInt = 0 then (f_x3_readTail_b_28 a22_11 a26_12 i13_18 i14_19 i15_20) else (f_x3_readTail_b_30 i12 a1 a22_11 a26_12 i13_18 i14_19 i15_20)
noncomputable def f_x3_readTail_b_6 (u0 : Int32) (u1 : Int32) (i9 : Int32) (i12 : Int32) (i13 : Int32) (i14 : Int32) (i15 : Int32) (a1 : Nat → Int32) (a22 : Nat → Int32) (a26 : Nat → Int32) : Int32 × Int32 × Int32 × Int32 × (Nat → Int32) × (Nat → Int32) :=
  let z_7 : Int32 := i13 + (1 : Int32)
  let a22_11 : Nat → Int32 := (F_x2_putClause u0 u1 z_7 i9 a22 a26).1
  let a26_12 : Nat → Int32 := (F_x2_putClause u0 u1 z_7 i9 a22 a26).2
  let v_15 : Int32 := (G_x3_readCondition 6 (1 : Int32) i12 z_7 i14 i15 a1).1
  let i13_18 : Int32 := (G_x3_readCondition 6 (1 : Int32) i12 z_7 i14 i15 a1).2.1
  let i14_19 : Int32 := (G_x3_readCondition 6 (1 : Int32) i12 z_7 i14 i15 a1).2.2.1
  let i15_20 : Int32 := (G_x3_readCondition 6 (1 : Int32) i12 z_7 i14 i15 a1).2.2.2
  (f_x3_readTail_b_26 i12 a1 a22_11 a26_12 v_15 i13_18 i14_19 i15_20)
noncomputable def f_x3_readTail_b_47 (i13 : Int32) (i14 : Int32) (i15 : Int32) (a22 : Nat → Int32) (a26 : Nat → Int32) : Int32 × Int32 × Int32 × Int32 × (Nat → Int32) × (Nat → Int32) :=
  ((1 : Int32), i13, i14, i15, a22, a26)
noncomputable def F_x3_readTail (u0 : Int32) (u1 : Int32) (i9 : Int32) (i12 : Int32) (i13 : Int32) (i14 : Int32) (i15 : Int32) (a1 : Nat → Int32) (a22 : Nat → Int32) (a26 : Nat → Int32) : Int32 × Int32 × Int32 × Int32 × (Nat → Int32) × (Nat → Int32) :=
  let v_1 : Int32 := (F_x3_sign i12 i13 a1)
  if v_1.toInt = 40 then (f_x3_readTail_b_6 u0 u1 i9 i12 i13 i14 i15 a1 a22 a26) else (f_x3_readTail_b_47 i13 i14 i15 a22 a26)
noncomputable def f_x3_readRanks_b_8 (u0 : Int32) (i9 : Int32) (i14 : Int32) (i15 : Int32) (a23 : Nat → Int32) (a24 : Nat → Int32) (a25 : Nat → Int32) (x_3 : Int32) (i13_6 : Int32) : Int32 × Int32 × Int32 × Int32 × (Nat → Int32) × (Nat → Int32) × (Nat → Int32) :=
  let a23_12 : Nat → Int32 := (F_x2_putMeaning u0 (0 : Int32) (0 : Int32) x_3 i9 a23 a24 a25).1
  let a24_13 : Nat → Int32 := (F_x2_putMeaning u0 (0 : Int32) (0 : Int32) x_3 i9 a23 a24 a25).2.1
  let a25_14 : Nat → Int32 := (F_x2_putMeaning u0 (0 : Int32) (0 : Int32) x_3 i9 a23 a24 a25).2.2
  ((1 : Int32), i13_6, i14, i15, a23_12, a24_13, a25_14)
noncomputable def f_x3_readRanks_b_38 (x_2 : Int32) (x_3 : Int32) (x_4 : Int32) (i13_6 : Int32) (self_J_1 : Int32 → Int32 → Int32 → Int32 → Int32 × Int32 × Int32 × Int32 × (Nat → Int32) × (Nat → Int32) × (Nat → Int32)) (z_34 : Int32) : Int32 × Int32 × Int32 × Int32 × (Nat → Int32) × (Nat → Int32) × (Nat → Int32) :=
  let z_39 : Int32 := (1 : Int32) <<< (z_34 &&& 31)
  let z_40 : Int32 := x_2 ||| z_39
  let z_41 : Int32 := x_3 * (4 : Int32)
  let z_42 : Int32 := z_41 + z_34
  let z_43 : Int32 := i13_6 + (1 : Int32)
  let z_44 : Int32 := x_4 + Int32.ofInt 1
  self_J_1 z_40 z_42 z_44 z_43
noncomputable def f_x3_readRanks_b_45 (a23 : Nat → Int32) (a24 : Nat → Int32) (a25 : Nat → Int32) (i13_6 : Int32) : Int32 × Int32 × Int32 × Int32 × (Nat → Int32) × (Nat → Int32) × (Nat → Int32) :=
  let v_46 : Int32 := (F_x3_fail (6 : Int32) i13_6).1
  let i14_49 : Int32 := (F_x3_fail (6 : Int32) i13_6).2.1
  let i15_50 : Int32 := (F_x3_fail (6 : Int32) i13_6).2.2
  (v_46, i13_6, i14_49, i15_50, a23, a24, a25)
noncomputable def f_x3_readRanks_b_29 (i12 : Int32) (a1 : Nat → Int32) (a23 : Nat → Int32) (a24 : Nat → Int32) (a25 : Nat → Int32) (x_2 : Int32) (x_3 : Int32) (x_4 : Int32) (i13_6 : Int32) (self_J_1 : Int32 → Int32 → Int32 → Int32 → Int32 × Int32 × Int32 × Int32 × (Nat → Int32) × (Nat → Int32) × (Nat → Int32)) : Int32 × Int32 × Int32 × Int32 × (Nat → Int32) × (Nat → Int32) × (Nat → Int32) :=
  let v_30 : Int32 := (F_x3_sign i12 i13_6 a1)
  let z_34 : Int32 := v_30 - (48 : Int32)
  let z_35 : Int32 := (1 : Int32) <<< (z_34 &&& 31)
  let z_36 : Int32 := x_2 &&& z_35
  if z_36.toInt = 0 then (f_x3_readRanks_b_38 x_2 x_3 x_4 i13_6 self_J_1 z_34) else (f_x3_readRanks_b_45 a23 a24 a25 i13_6)
noncomputable def f_x3_readRanks_b_56 (a23 : Nat → Int32) (a24 : Nat → Int32) (a25 : Nat → Int32) (i13_6 : Int32) : Int32 × Int32 × Int32 × Int32 × (Nat → Int32) × (Nat → Int32) × (Nat → Int32) :=
  let v_57 : Int32 := (F_x3_fail (1 : Int32) i13_6).1
  let i14_60 : Int32 := (F_x3_fail (1 : Int32) i13_6).2.1
  let i15_61 : Int32 := (F_x3_fail (1 : Int32) i13_6).2.2
  (v_57, i13_6, i14_60, i15_61, a23, a24, a25)
noncomputable def f_x3_readRanks_b_19 (i12 : Int32) (a1 : Nat → Int32) (a23 : Nat → Int32) (a24 : Nat → Int32) (a25 : Nat → Int32) (x_2 : Int32) (x_3 : Int32) (x_4 : Int32) (i13_6 : Int32) (self_J_1 : Int32 → Int32 → Int32 → Int32 → Int32 × Int32 × Int32 × Int32 × (Nat → Int32) × (Nat → Int32) × (Nat → Int32)) : Int32 × Int32 × Int32 × Int32 × (Nat → Int32) × (Nat → Int32) × (Nat → Int32) :=
  let v_20 : Int32 := (F_x3_sign i12 i13_6 a1)
  let v_24 : Int32 := (F_x3_isBetween v_20 (48 : Int32) (50 : Int32))
  if v_24.toInt ≠ 0 then (f_x3_readRanks_b_29 i12 a1 a23 a24 a25 x_2 x_3 x_4 i13_6 self_J_1) else (f_x3_readRanks_b_56 a23 a24 a25 i13_6)
noncomputable def f_x3_readRanks_J_1 (u0 : Int32) (i9 : Int32) (i12 : Int32) (i14 : Int32) (i15 : Int32) (a1 : Nat → Int32) (a23 : Nat → Int32) (a24 : Nat → Int32) (a25 : Nat → Int32) (x_2 : Int32) (x_3 : Int32) (x_4 : Int32) (i13_6 : Int32) (self_J_1 : Int32 → Int32 → Int32 → Int32 → Int32 × Int32 × Int32 × Int32 × (Nat → Int32) × (Nat → Int32) × (Nat → Int32)) : Int32 × Int32 × Int32 × Int32 × (Nat → Int32) × (Nat → Int32) × (Nat → Int32) :=
  if x_4.toInt ≥ 3 then (f_x3_readRanks_b_8 u0 i9 i14 i15 a23 a24 a25 x_3 i13_6) else (f_x3_readRanks_b_19 i12 a1 a23 a24 a25 x_2 x_3 x_4 i13_6 self_J_1)
noncomputable def f_x3_readRanks_j1 (u0 : Int32) (i9 : Int32) (i12 : Int32) (i14 : Int32) (i15 : Int32) (a1 : Nat → Int32) (a23 : Nat → Int32) (a24 : Nat → Int32) (a25 : Nat → Int32) (n : Nat) : Int32 → Int32 → Int32 → Int32 → Int32 × Int32 × Int32 × Int32 × (Nat → Int32) × (Nat → Int32) × (Nat → Int32) :=
  Nat.rec (motive := fun _ => Int32 → Int32 → Int32 → Int32 → Int32 × Int32 × Int32 × Int32 × (Nat → Int32) × (Nat → Int32) × (Nat → Int32)) (fun _ _ _ _ => (0, 0, 0, 0, (fun _ => 0), (fun _ => 0), (fun _ => 0))) (fun _ sq_ x_2 x_3 x_4 i13_6 => f_x3_readRanks_J_1 u0 i9 i12 i14 i15 a1 a23 a24 a25 x_2 x_3 x_4 i13_6 sq_) n
noncomputable def F_x3_readRanks (u0 : Int32) (i9 : Int32) (i12 : Int32) (i13 : Int32) (i14 : Int32) (i15 : Int32) (a1 : Nat → Int32) (a23 : Nat → Int32) (a24 : Nat → Int32) (a25 : Nat → Int32) : Int32 × Int32 × Int32 × Int32 × (Nat → Int32) × (Nat → Int32) × (Nat → Int32) :=
  f_x3_readRanks_j1 u0 i9 i12 i14 i15 a1 a23 a24 a25 4 ((0 : Int32)) ((0 : Int32)) ((0 : Int32)) i13
noncomputable def f_x3_readHundredths_b_50 (i13_33 : Int32) (i14_34 : Int32) (i15_35 : Int32) (a23_43 : Nat → Int32) (a24_44 : Nat → Int32) (a25_45 : Nat → Int32) : Int32 × Int32 × Int32 × Int32 × (Nat → Int32) × (Nat → Int32) × (Nat → Int32) :=
  ((0 : Int32), i13_33, i14_34, i15_35, a23_43, a24_44, a25_45)
noncomputable def f_x3_readHundredths_b_52 (i13_33 : Int32) (i14_34 : Int32) (i15_35 : Int32) (a23_43 : Nat → Int32) (a24_44 : Nat → Int32) (a25_45 : Nat → Int32) : Int32 × Int32 × Int32 × Int32 × (Nat → Int32) × (Nat → Int32) × (Nat → Int32) :=
  ((1 : Int32), i13_33, i14_34, i15_35, a23_43, a24_44, a25_45)
noncomputable def f_x3_readHundredths_b_29 (u0 : Int32) (i9 : Int32) (i12 : Int32) (a1 : Nat → Int32) (a23 : Nat → Int32) (a24 : Nat → Int32) (a25 : Nat → Int32) (z_15 : Int32) (i13_20 : Int32) (i14_21 : Int32) (i15_22 : Int32) : Int32 × Int32 × Int32 × Int32 × (Nat → Int32) × (Nat → Int32) × (Nat → Int32) :=
  let v_30 : Int32 := (F_x3_readNumber (100 : Int32) i12 i13_20 i14_21 i15_22 a1).1
  let i13_33 : Int32 := (F_x3_readNumber (100 : Int32) i12 i13_20 i14_21 i15_22 a1).2.1
  let i14_34 : Int32 := (F_x3_readNumber (100 : Int32) i12 i13_20 i14_21 i15_22 a1).2.2.1
  let i15_35 : Int32 := (F_x3_readNumber (100 : Int32) i12 i13_20 i14_21 i15_22 a1).2.2.2
  let a23_43 : Nat → Int32 := (F_x2_putMeaning u0 z_15 (0 : Int32) v_30 i9 a23 a24 a25).1
  let a24_44 : Nat → Int32 := (F_x2_putMeaning u0 z_15 (0 : Int32) v_30 i9 a23 a24 a25).2.1
  let a25_45 : Nat → Int32 := (F_x2_putMeaning u0 z_15 (0 : Int32) v_30 i9 a23 a24 a25).2.2
  if v_30.toInt = (-1) then (f_x3_readHundredths_b_50 i13_33 i14_34 i15_35 a23_43 a24_44 a25_45) else (f_x3_readHundredths_b_52 i13_33 i14_34 i15_35 a23_43 a24_44 a25_45)
noncomputable def f_x3_readHundredths_b_54 (a23 : Nat → Int32) (a24 : Nat → Int32) (a25 : Nat → Int32) (i13_20 : Int32) (i14_21 : Int32) (i15_22 : Int32) : Int32 × Int32 × Int32 × Int32 × (Nat → Int32) × (Nat → Int32) × (Nat → Int32) :=
  ((0 : Int32), i13_20, i14_21, i15_22, a23, a24, a25)
noncomputable def f_x3_readHundredths_b_10 (u0 : Int32) (i9 : Int32) (i12 : Int32) (i13 : Int32) (i14 : Int32) (i15 : Int32) (a1 : Nat → Int32) (a23 : Nat → Int32) (a24 : Nat → Int32) (a25 : Nat → Int32) : Int32 × Int32 × Int32 × Int32 × (Nat → Int32) × (Nat → Int32) × (Nat → Int32) :=
  let v_11 : Int32 := (F_x3_sign i12 i13 a1)
  let z_15 : Int32 := v_11 - (48 : Int32)
  let z_16 : Int32 := i13 + (1 : Int32)
  let v_17 : Int32 := (F_x3_pass (46 : Int32) i12 z_16 i14 i15 a1).1
  let i13_20 : Int32 := (F_x3_pass (46 : Int32) i12 z_16 i14 i15 a1).2.1
  let i14_21 : Int32 := (F_x3_pass (46 : Int32) i12 z_16 i14 i15 a1).2.2.1
  let i15_22 : Int32 := (F_x3_pass (46 : Int32) i12 z_16 i14 i15 a1).2.2.2
  if v_17.toInt ≠ 0 then (f_x3_readHundredths_b_29 u0 i9 i12 a1 a23 a24 a25 z_15 i13_20 i14_21 i15_22) else (f_x3_readHundredths_b_54 a23 a24 a25 i13_20 i14_21 i15_22)
noncomputable def f_x3_readHundredths_b_56 (i13 : Int32) (a23 : Nat → Int32) (a24 : Nat → Int32) (a25 : Nat → Int32) : Int32 × Int32 × Int32 × Int32 × (Nat → Int32) × (Nat → Int32) × (Nat → Int32) :=
  let v_57 : Int32 := (F_x3_fail (1 : Int32) i13).1
  let i14_60 : Int32 := (F_x3_fail (1 : Int32) i13).2.1
  let i15_61 : Int32 := (F_x3_fail (1 : Int32) i13).2.2
  (v_57, i13, i14_60, i15_61, a23, a24, a25)
noncomputable def F_x3_readHundredths (u0 : Int32) (i9 : Int32) (i12 : Int32) (i13 : Int32) (i14 : Int32) (i15 : Int32) (a1 : Nat → Int32) (a23 : Nat → Int32) (a24 : Nat → Int32) (a25 : Nat → Int32) : Int32 × Int32 × Int32 × Int32 × (Nat → Int32) × (Nat → Int32) × (Nat → Int32) :=
  let v_1 : Int32 := (F_x3_sign i12 i13 a1)
  let v_5 : Int32 := (F_x3_isBetween v_1 (48 : Int32) (49 : Int32))
  if v_5.toInt ≠ 0 then (f_x3_readHundredths_b_10 u0 i9 i12 i13 i14 i15 a1 a23 a24 a25) else (f_x3_readHundredths_b_56 i13 a23 a24 a25)
noncomputable def f_x3_readRest_b_21 (i13_4 : Int32) (i14_5 : Int32) (i15_6 : Int32) (a23_14 : Nat → Int32) (a24_15 : Nat → Int32) (a25_16 : Nat → Int32) : Int32 × Int32 × Int32 × Int32 × (Nat → Int32) × (Nat → Int32) × (Nat → Int32) :=
  ((0 : Int32), i13_4, i14_5, i15_6, a23_14, a24_15, a25_16)
noncomputable def f_x3_readRest_b_23 (i13_4 : Int32) (i14_5 : Int32) (i15_6 : Int32) (a23_14 : Nat → Int32) (a24_15 : Nat → Int32) (a25_16 : Nat → Int32) : Int32 × Int32 × Int32 × Int32 × (Nat → Int32) × (Nat → Int32) × (Nat → Int32) :=
  ((1 : Int32), i13_4, i14_5, i15_6, a23_14, a24_15, a25_16)
noncomputable def F_x3_readRest (u0 : Int32) (i9 : Int32) (i12 : Int32) (i13 : Int32) (i14 : Int32) (i15 : Int32) (a1 : Nat → Int32) (a23 : Nat → Int32) (a24 : Nat → Int32) (a25 : Nat → Int32) : Int32 × Int32 × Int32 × Int32 × (Nat → Int32) × (Nat → Int32) × (Nat → Int32) :=
  let v_1 : Int32 := (F_x3_readNumber (99999 : Int32) i12 i13 i14 i15 a1).1
  let i13_4 : Int32 := (F_x3_readNumber (99999 : Int32) i12 i13 i14 i15 a1).2.1
  let i14_5 : Int32 := (F_x3_readNumber (99999 : Int32) i12 i13 i14 i15 a1).2.2.1
  let i15_6 : Int32 := (F_x3_readNumber (99999 : Int32) i12 i13 i14 i15 a1).2.2.2
  let a23_14 : Nat → Int32 := (F_x2_putMeaning u0 (0 : Int32) (0 : Int32) v_1 i9 a23 a24 a25).1
  let a24_15 : Nat → Int32 := (F_x2_putMeaning u0 (0 : Int32) (0 : Int32) v_1 i9 a23 a24 a25).2.1
  let a25_16 : Nat → Int32 := (F_x2_putMeaning u0 (0 : Int32) (0 : Int32) v_1 i9 a23 a24 a25).2.2
  if v_1.toInt = (-1) then (f_x3_readRest_b_21 i13_4 i14_5 i15_6 a23_14 a24_15 a25_16) else (f_x3_readRest_b_23 i13_4 i14_5 i15_6 a23_14 a24_15 a25_16)
noncomputable def f_x3_readClause_b_27 (u0 : Int32) (i9 : Int32) (i12 : Int32) (i14 : Int32) (i15 : Int32) (a1 : Nat → Int32) (z_8 : Int32) (a22_12 : Nat → Int32) (a26_13 : Nat → Int32) (a23_19 : Nat → Int32) (a24_20 : Nat → Int32) (a25_21 : Nat → Int32) (z_25 : Int32) : Int32 × Int32 × Int32 × Int32 × Int32 × (Nat → Int32) × (Nat → Int32) × (Nat → Int32) × (Nat → Int32) × (Nat → Int32) :=
  let v_28 : Int32 := (F_x3_readRanks u0 i9 i12 z_8 i14 i15 a1 a23_19 a24_20 a25_21).1
  let i13_31 : Int32 := (F_x3_readRanks u0 i9 i12 z_8 i14 i15 a1 a23_19 a24_20 a25_21).2.1
  let i14_32 : Int32 := (F_x3_readRanks u0 i9 i12 z_8 i14 i15 a1 a23_19 a24_20 a25_21).2.2.1
  let i15_33 : Int32 := (F_x3_readRanks u0 i9 i12 z_8 i14 i15 a1 a23_19 a24_20 a25_21).2.2.2.1
  let a23_34 : Nat → Int32 := (F_x3_readRanks u0 i9 i12 z_8 i14 i15 a1 a23_19 a24_20 a25_21).2.2.2.2.1
  let a24_35 : Nat → Int32 := (F_x3_readRanks u0 i9 i12 z_8 i14 i15 a1 a23_19 a24_20 a25_21).2.2.2.2.2.1
  let a25_36 : Nat → Int32 := (F_x3_readRanks u0 i9 i12 z_8 i14 i15 a1 a23_19 a24_20 a25_21).2.2.2.2.2.2
  (v_28, i13_31, i14_32, i15_33, z_25, a22_12, a23_34, a24_35, a25_36, a26_13)
noncomputable def f_x3_readClause_b_46 (u0 : Int32) (i9 : Int32) (i12 : Int32) (i14 : Int32) (i15 : Int32) (a1 : Nat → Int32) (v_1 : Int32) (z_8 : Int32) (a22_12 : Nat → Int32) (a26_13 : Nat → Int32) (a23_19 : Nat → Int32) (a24_20 : Nat → Int32) (a25_21 : Nat → Int32) (z_25 : Int32) : Int32 × Int32 × Int32 × Int32 × Int32 × (Nat → Int32) × (Nat → Int32) × (Nat → Int32) × (Nat → Int32) × (Nat → Int32) :=
  let v_47 : Int32 := (F_x3_readTail u0 v_1 i9 i12 z_8 i14 i15 a1 a22_12 a26_13).1
  let i13_50 : Int32 := (F_x3_readTail u0 v_1 i9 i12 z_8 i14 i15 a1 a22_12 a26_13).2.1
  let i14_51 : Int32 := (F_x3_readTail u0 v_1 i9 i12 z_8 i14 i15 a1 a22_12 a26_13).2.2.1
  let i15_52 : Int32 := (F_x3_readTail u0 v_1 i9 i12 z_8 i14 i15 a1 a22_12 a26_13).2.2.2.1
  let a22_53 : Nat → Int32 := (F_x3_readTail u0 v_1 i9 i12 z_8 i14 i15 a1 a22_12 a26_13).2.2.2.2.1
  let a26_54 : Nat → Int32 := (F_x3_readTail u0 v_1 i9 i12 z_8 i14 i15 a1 a22_12 a26_13).2.2.2.2.2
  (v_47, i13_50, i14_51, i15_52, z_25, a22_53, a23_19, a24_20, a25_21, a26_54)
noncomputable def f_x3_readClause_b_63 (u0 : Int32) (i9 : Int32) (i12 : Int32) (i14 : Int32) (i15 : Int32) (a1 : Nat → Int32) (z_8 : Int32) (a22_12 : Nat → Int32) (a26_13 : Nat → Int32) (a23_19 : Nat → Int32) (a24_20 : Nat → Int32) (a25_21 : Nat → Int32) (z_25 : Int32) : Int32 × Int32 × Int32 × Int32 × Int32 × (Nat → Int32) × (Nat → Int32) × (Nat → Int32) × (Nat → Int32) × (Nat → Int32) :=
  let v_64 : Int32 := (F_x3_readHundredths u0 i9 i12 z_8 i14 i15 a1 a23_19 a24_20 a25_21).1
  let i13_67 : Int32 := (F_x3_readHundredths u0 i9 i12 z_8 i14 i15 a1 a23_19 a24_20 a25_21).2.1
  let i14_68 : Int32 := (F_x3_readHundredths u0 i9 i12 z_8 i14 i15 a1 a23_19 a24_20 a25_21).2.2.1
  let i15_69 : Int32 := (F_x3_readHundredths u0 i9 i12 z_8 i14 i15 a1 a23_19 a24_20 a25_21).2.2.2.1
  let a23_70 : Nat → Int32 := (F_x3_readHundredths u0 i9 i12 z_8 i14 i15 a1 a23_19 a24_20 a25_21).2.2.2.2.1
  let a24_71 : Nat → Int32 := (F_x3_readHundredths u0 i9 i12 z_8 i14 i15 a1 a23_19 a24_20 a25_21).2.2.2.2.2.1
  let a25_72 : Nat → Int32 := (F_x3_readHundredths u0 i9 i12 z_8 i14 i15 a1 a23_19 a24_20 a25_21).2.2.2.2.2.2
  (v_64, i13_67, i14_68, i15_69, z_25, a22_12, a23_70, a24_71, a25_72, a26_13)
noncomputable def f_x3_readClause_b_101 (a22_12 : Nat → Int32) (a26_13 : Nat → Int32) (z_25 : Int32) (i13_86 : Int32) (i14_87 : Int32) (i15_88 : Int32) (a23_89 : Nat → Int32) (a24_90 : Nat → Int32) (a25_91 : Nat → Int32) : Int32 × Int32 × Int32 × Int32 × Int32 × (Nat → Int32) × (Nat → Int32) × (Nat → Int32) × (Nat → Int32) × (Nat → Int32) :=
  ((0 : Int32), i13_86, i14_87, i15_88, z_25, a22_12, a23_89, a24_90, a25_91, a26_13)
noncomputable def f_x3_readClause_b_120 (z_25 : Int32) (a23_89 : Nat → Int32) (a24_90 : Nat → Int32) (a25_91 : Nat → Int32) (i13_107 : Int32) (i14_108 : Int32) (i15_109 : Int32) (a22_110 : Nat → Int32) (a26_111 : Nat → Int32) : Int32 × Int32 × Int32 × Int32 × Int32 × (Nat → Int32) × (Nat → Int32) × (Nat → Int32) × (Nat → Int32) × (Nat → Int32) :=
  ((0 : Int32), i13_107, i14_108, i15_109, z_25, a22_110, a23_89, a24_90, a25_91, a26_111)
noncomputable def f_x3_readClause_b_122 (z_25 : Int32) (a23_89 : Nat → Int32) (a24_90 : Nat → Int32) (a25_91 : Nat → Int32) (i13_107 : Int32) (i14_108 : Int32) (i15_109 : Int32) (a22_110 : Nat → Int32) (a26_111 : Nat → Int32) : Int32 × Int32 × Int32 × Int32 × Int32 × (Nat → Int32) × (Nat → Int32) × (Nat → Int32) × (Nat → Int32) × (Nat → Int32) :=
  ((1 : Int32), i13_107, i14_108, i15_109, z_25, a22_110, a23_89, a24_90, a25_91, a26_111)
noncomputable def f_x3_readClause_b_103 (u0 : Int32) (i9 : Int32) (i12 : Int32) (a1 : Nat → Int32) (v_1 : Int32) (a22_12 : Nat → Int32) (a26_13 : Nat → Int32) (z_25 : Int32) (i13_86 : Int32) (i14_87 : Int32) (i15_88 : Int32) (a23_89 : Nat → Int32) (a24_90 : Nat → Int32) (a25_91 : Nat → Int32) : Int32 × Int32 × Int32 × Int32 × Int32 × (Nat → Int32) × (Nat → Int32) × (Nat → Int32) × (Nat → Int32) × (Nat → Int32) :=
  let v_104 : Int32 := (F_x3_readTail u0 v_1 i9 i12 i13_86 i14_87 i15_88 a1 a22_12 a26_13).1
  let i13_107 : Int32 := (F_x3_readTail u0 v_1 i9 i12 i13_86 i14_87 i15_88 a1 a22_12 a26_13).2.1
  let i14_108 : Int32 := (F_x3_readTail u0 v_1 i9 i12 i13_86 i14_87 i15_88 a1 a22_12 a26_13).2.2.1
  let i15_109 : Int32 := (F_x3_readTail u0 v_1 i9 i12 i13_86 i14_87 i15_88 a1 a22_12 a26_13).2.2.2.1
  let a22_110 : Nat → Int32 := (F_x3_readTail u0 v_1 i9 i12 i13_86 i14_87 i15_88 a1 a22_12 a26_13).2.2.2.2.1
  let a26_111 : Nat → Int32 := (F_x3_readTail u0 v_1 i9 i12 i13_86 i14_87 i15_88 a1 a22_12 a26_13).2.2.2.2.2
  if v_104.toInt = 0 then (f_x3_readClause_b_120 z_25 a23_89 a24_90 a25_91 i13_107 i14_108 i15_109 a22_110 a26_111) else (f_x3_readClause_b_122 z_25 a23_89 a24_90 a25_91 i13_107 i14_108 i15_109 a22_110 a26_111)
noncomputable def f_x3_readClause_b_82 (u0 : Int32) (i9 : Int32) (i12 : Int32) (i14 : Int32) (i15 : Int32) (a1 : Nat → Int32) (v_1 : Int32) (z_8 : Int32) (a22_12 : Nat → Int32) (a26_13 : Nat → Int32) (a23_19 : Nat → Int32) (a24_20 : Nat → Int32) (a25_21 : Nat → Int32) (z_25 : Int32) : Int32 × Int32 × Int32 × Int32 × Int32 × (Nat → Int32) × (Nat → Int32) × (Nat → Int32) × (Nat → Int32) × (Nat → Int32) :=
  let v_83 : Int32 := (F_x3_readTurning u0 i9 i12 z_8 i14 i15 a1 a23_19 a24_20 a25_21).1
  let i13_86 : Int32 := (F_x3_readTurning u0 i9 i12 z_8 i14 i15 a1 a23_19 a24_20 a25_21).2.1
  let i14_87 : Int32 := (F_x3_readTurning u0 i9 i12 z_8 i14 i15 a1 a23_19 a24_20 a25_21).2.2.1
  let i15_88 : Int32 := (F_x3_readTurning u0 i9 i12 z_8 i14 i15 a1 a23_19 a24_20 a25_21).2.2.2.1
  let a23_89 : Nat → Int32 := (F_x3_readTurning u0 i9 i12 z_8 i14 i15 a1 a23_19 a24_20 a25_21).2.2.2.2.1
  let a24_90 : Nat → Int32 := (F_x3_readTurning u0 i9 i12 z_8 i14 i15 a1 a23_19 a24_20 a25_21).2.2.2.2.2.1
  let a25_91 : Nat → Int32 := (F_x3_readTurning u0 i9 i12 z_8 i14 i15 a1 a23_19 a24_20 a25_21).2.2.2.2.2.2
  if v_83.toInt = 0 then (f_x3_readClause_b_101 a22_12 a26_13 z_25 i13_86 i14_87 i15_88 a23_89 a24_90 a25_91) else (f_x3_readClause_b_103 u0 i9 i12 a1 v_1 a22_12 a26_13 z_25 i13_86 i14_87 i15_88 a23_89 a24_90 a25_91)
noncomputable def f_x3_readClause_b_124 (u0 : Int32) (i9 : Int32) (i12 : Int32) (i14 : Int32) (i15 : Int32) (a1 : Nat → Int32) (z_8 : Int32) (a22_12 : Nat → Int32) (a26_13 : Nat → Int32) (a23_19 : Nat → Int32) (a24_20 : Nat → Int32) (a25_21 : Nat → Int32) (z_25 : Int32) : Int32 × Int32 × Int32 × Int32 × Int32 × (Nat → Int32) × (Nat → Int32) × (Nat → Int32) × (Nat → Int32) × (Nat → Int32) :=
  let v_125 : Int32 := (F_x3_readRest u0 i9 i12 z_8 i14 i15 a1 a23_19 a24_20 a25_21).1
  let i13_128 : Int32 := (F_x3_readRest u0 i9 i12 z_8 i14 i15 a1 a23_19 a24_20 a25_21).2.1
  let i14_129 : Int32 := (F_x3_readRest u0 i9 i12 z_8 i14 i15 a1 a23_19 a24_20 a25_21).2.2.1
  let i15_130 : Int32 := (F_x3_readRest u0 i9 i12 z_8 i14 i15 a1 a23_19 a24_20 a25_21).2.2.2.1
  let a23_131 : Nat → Int32 := (F_x3_readRest u0 i9 i12 z_8 i14 i15 a1 a23_19 a24_20 a25_21).2.2.2.2.1
  let a24_132 : Nat → Int32 := (F_x3_readRest u0 i9 i12 z_8 i14 i15 a1 a23_19 a24_20 a25_21).2.2.2.2.2.1
  let a25_133 : Nat → Int32 := (F_x3_readRest u0 i9 i12 z_8 i14 i15 a1 a23_19 a24_20 a25_21).2.2.2.2.2.2
  (v_125, i13_128, i14_129, i15_130, z_25, a22_12, a23_131, a24_132, a25_133, a26_13)
noncomputable def f_x3_readClause_b_7 (u0 : Int32) (i9 : Int32) (i12 : Int32) (i13 : Int32) (i14 : Int32) (i15 : Int32) (a1 : Nat → Int32) (a22 : Nat → Int32) (a23 : Nat → Int32) (a24 : Nat → Int32) (a25 : Nat → Int32) (a26 : Nat → Int32) (v_1 : Int32) : Int32 × Int32 × Int32 × Int32 × Int32 × (Nat → Int32) × (Nat → Int32) × (Nat → Int32) × (Nat → Int32) × (Nat → Int32) :=
  let z_8 : Int32 := i13 + (1 : Int32)
  let a22_12 : Nat → Int32 := (F_x2_putClause u0 v_1 (-1 : Int32) i9 a22 a26).1
  let a26_13 : Nat → Int32 := (F_x2_putClause u0 v_1 (-1 : Int32) i9 a22 a26).2
  let a23_19 : Nat → Int32 := (F_x2_putMeaning u0 (0 : Int32) (0 : Int32) (0 : Int32) i9 a23 a24 a25).1
  let a24_20 : Nat → Int32 := (F_x2_putMeaning u0 (0 : Int32) (0 : Int32) (0 : Int32) i9 a23 a24 a25).2.1
  let a25_21 : Nat → Int32 := (F_x2_putMeaning u0 (0 : Int32) (0 : Int32) (0 : Int32) i9 a23 a24 a25).2.2
  let z_25 : Int32 := u0 + (1 : Int32)
  if v_1.toInt = 107 then (f_x3_readClause_b_27 u0 i9 i12 i14 i15 a1 z_8 a22_12 a26_13 a23_19 a24_20 a25_21 z_25) else if v_1.toInt = 115 then (f_x3_readClause_b_46 u0 i9 i12 i14 i15 a1 v_1 z_8 a22_12 a26_13 a23_19 a24_20 a25_21 z_25) else if v_1.toInt = 118 then (f_x3_readClause_b_63 u0 i9 i12 i14 i15 a1 z_8 a22_12 a26_13 a23_19 a24_20 a25_21 z_25) else if v_1.toInt = 119 then (f_x3_readClause_b_82 u0 i9 i12 i14 i15 a1 v_1 z_8 a22_12 a26_13 a23_19 a24_20 a25_21 z_25) else (f_x3_readClause_b_124 u0 i9 i12 i14 i15 a1 z_8 a22_12 a26_13 a23_19 a24_20 a25_21 z_25)
