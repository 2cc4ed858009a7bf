noncomputable def f_m12_now_b_6 (p0 : Int32) : Int32 × Int32 :=
  ((1 : Int32), p0)
noncomputable def f_m12_now_b_8 (i1 : Int32) : Int32 × Int32 :=
  ((0 : Int32), i1)
noncomputable def F_m12_now (p0 : Int32) (i1 : Int32) : Int32 × Int32 :=
  let v_1 : Int32 := (F_m12_lies p0 i1 (3999 : Int32))
  if v_1.toInt ≠ 0 then (f_m12_now_b_6 p0) else (f_m12_now_b_8 i1)
noncomputable def f_m12_push_b_10 (i0_4 : Int32) (a1_5 : Nat → Int32) : Int32 × (Nat → Int32) :=
  (i0_4, a1_5)
noncomputable def f_m12_push_b_11 (p0 : Int32) (x_2 : Int32) (i0_4 : Int32) (a1_5 : Nat → Int32) (self_J_1 : Int32 → Int32 → (Nat → Int32) → Int32 × (Nat → Int32)) : Int32 × (Nat → Int32) :=
  let z_12 : Int32 := p0 >>> (x_2 &&& 31)
  let z_13 : Int32 := z_12.toInt8.toInt32
  let a1_14 : Nat → Int32 := upd a1_5 i0_4.toNatClampNeg (vp_nar .byte z_13)
  let z_15 : Int32 := i0_4 + (1 : Int32)
  let z_16 : Int32 := x_2 + Int32.ofInt (-8)
  self_J_1 z_16 z_15 a1_14
noncomputable def f_m12_push_J_1 (p0 : Int32) (x_2 : Int32) (i0_4 : Int32) (a1_5 : Nat → Int32) (self_J_1 : Int32 → Int32 → (Nat → Int32) → Int32 × (Nat → Int32)) : Int32 × (Nat → Int32) :=
  if x_2.toInt < 0 then (f_m12_push_b_10 i0_4 a1_5) else (f_m12_push_b_11 p0 x_2 i0_4 a1_5 self_J_1)
noncomputable def f_m12_push_j1 (p0 : Int32) (n : Nat) : Int32 → Int32 → (Nat → Int32) → Int32 × (Nat → Int32) :=
  Nat.rec (motive := fun _ => Int32 → Int32 → (Nat → Int32) → Int32 × (Nat → Int32)) (fun _ _ _ => (0, (fun _ => 0))) (fun _ sq_ x_2 i0_4 a1_5 => f_m12_push_J_1 p0 x_2 i0_4 a1_5 sq_) n
noncomputable def F_m12_push (p0 : Int32) (i0 : Int32) (a1 : Nat → Int32) : Int32 × (Nat → Int32) :=
  f_m12_push_j1 p0 33 ((24 : Int32)) i0 a1
noncomputable def f_m12_feed_b_3 (p0 : Int32) (p1 : Int32) (p2 : Int32) (p3 : Int32) (p4 : Int32) (i0 : Int32) (a1 : Nat → Int32) : Int32 × Int32 × (Nat → Int32) :=
  let i0_7 : Int32 := (F_m12_push p0 i0 a1).1
  let a1_8 : Nat → Int32 := (F_m12_push p0 i0 a1).2
  let i0_16 : Int32 := (F_m12_push p1 i0_7 a1_8).1
  let a1_17 : Nat → Int32 := (F_m12_push p1 i0_7 a1_8).2
  let i0_25 : Int32 := (F_m12_push p2 i0_16 a1_17).1
  let a1_26 : Nat → Int32 := (F_m12_push p2 i0_16 a1_17).2
  let i0_34 : Int32 := (F_m12_push p3 i0_25 a1_26).1
  let a1_35 : Nat → Int32 := (F_m12_push p3 i0_25 a1_26).2
  let i0_43 : Int32 := (F_m12_push p4 i0_34 a1_35).1
  let a1_44 : Nat → Int32 := (F_m12_push p4 i0_34 a1_35).2
  (i0_43, i0_43, a1_44)
noncomputable def f_m12_feed_b_50 (i0 : Int32) (a1 : Nat → Int32) : Int32 × Int32 × (Nat → Int32) :=
  ((-1 : Int32), i0, a1)
noncomputable def F_m12_feed (p0 : Int32) (p1 : Int32) (p2 : Int32) (p3 : Int32) (p4 : Int32) (i0 : Int32) (a1 : Nat → Int32) : Int32 × Int32 × (Nat → Int32) :=
  let z_1 : Int32 := i0 + (20 : Int32)
  if z_1.toInt ≤ 200 then (f_m12_feed_b_3 p0 p1 p2 p3 p4 i0 a1) else (f_m12_feed_b_50 i0 a1)
noncomputable def f_m12_verse_b_2 (i2 : Int32) (a2 : Nat → Int32) (a3 : Nat → Int32) : Int32 × Int32 × (Nat → Int32) × (Nat → Int32) :=
  ((-1 : Int32), i2, a2, a3)
noncomputable def f_m12_verse_b_10 (i2 : Int32) (a2 : Nat → Int32) (a3 : Nat → Int32) : Int32 × Int32 × (Nat → Int32) × (Nat → Int32) :=
  ((-1 : Int32), i2, a2, a3)
noncomputable def f_m12_verse_b_18 (p0 : Int32) (p1 : Int32) (i2 : Int32) (a2 : Nat → Int32) (a3 : Nat → Int32) : Int32 × Int32 × (Nat → Int32) × (Nat → Int32) :=
  let a2_19 : Nat → Int32 := upd a2 i2.toNatClampNeg p0
  let a3_20 : Nat → Int32 := upd a3 i2.toNatClampNeg p1
  let z_21 : Int32 := i2 + (1 : Int32)
  let z_22 : Int32 := z_21 - (1 : Int32)
  (z_22, z_21, a2_19, a3_20)
noncomputable def f_m12_verse_b_24 (i2 : Int32) (a2 : Nat → Int32) (a3 : Nat → Int32) : Int32 × Int32 × (Nat → Int32) × (Nat → Int32) :=
  ((-1 : Int32), i2, a2, a3)
noncomputable def f_m12_verse_b_12 (p0 : Int32) (p1 : Int32) (i2 : Int32) (a2 : Nat → Int32) (a3 : Nat → Int32) : Int32 × Int32 × (Nat → Int32) × (Nat → Int32) :=
  let v_13 : Int32 := (F_m12_lies p1 (0 : Int32) (40 : Int32))
  if v_13.toInt ≠ 0 then (f_m12_verse_b_18 p0 p1 i2 a2 a3) else (f_m12_verse_b_24 i2 a2 a3)
noncomputable def f_m12_verse_b_4 (p0 : Int32) (p1 : Int32) (i2 : Int32) (a2 : Nat → Int32) (a3 : Nat → Int32) : Int32 × Int32 × (Nat → Int32) × (Nat → Int32) :=
  let v_5 : Int32 := (F_m12_lies p0 (0 : Int32) (7 : Int32))
  if v_5.toInt = 0 then (f_m12_verse_b_10 i2 a2 a3) else (f_m12_verse_b_12 p0 p1 i2 a2 a3)
noncomputable def F_m12_verse (p0 : Int32) (p1 : Int32) (i2 : Int32) (a2 : Nat → Int32) (a3 : Nat → Int32) : Int32 × Int32 × (Nat → Int32) × (Nat → Int32) :=
  if i2.toInt = 60 then (f_m12_verse_b_2 i2 a2 a3) else (f_m12_verse_b_4 p0 p1 i2 a2 a3)
noncomputable def f_m12_source_b_7 (i0 : Int32) (a4 : Nat → Int32) (a5 : Nat → Int32) : Int32 × Int32 × (Nat → Int32) × (Nat → Int32) :=
  ((0 : Int32), i0, a4, a5)
noncomputable def f_m12_source_b_15 (i0 : Int32) (a4 : Nat → Int32) (a5 : Nat → Int32) : Int32 × Int32 × (Nat → Int32) × (Nat → Int32) :=
  ((0 : Int32), i0, a4, a5)
noncomputable def f_m12_source_b_23 (i0 : Int32) (a4 : Nat → Int32) (a5 : Nat → Int32) : Int32 × Int32 × (Nat → Int32) × (Nat → Int32) :=
  ((0 : Int32), i0, a4, a5)
noncomputable def f_m12_source_b_41 (a4_35 : Nat → Int32) (a5_39 : Nat → Int32) : Int32 × Int32 × (Nat → Int32) × (Nat → Int32) :=
  ((1 : Int32), (0 : Int32), a4_35, a5_39)
noncomputable def f_m12_source_b_43 (a1 : Nat → Int32) (z_34 : Int32) (x_37 : Int32) (a5_39 : Nat → Int32) (self_J_36 : Int32 → (Nat → Int32) → Int32 × Int32 × (Nat → Int32) × (Nat → Int32)) : Int32 × Int32 × (Nat → Int32) × (Nat → Int32) :=
  let z_44 : Int32 := (8 : Int32) * z_34
  let z_45 : Int32 := z_44 + x_37
  let z_46 : Int32 := a1 x_37.toNatClampNeg
  let z_47 : Int32 := z_46 &&& (255 : Int32)
  let a5_48 : Nat → Int32 := upd a5_39 z_45.toNatClampNeg z_47
  let z_49 : Int32 := x_37 + Int32.ofInt 1
  self_J_36 z_49 a5_48
noncomputable def f_m12_source_J_36 (p2 : Int32) (a1 : Nat → Int32) (z_34 : Int32) (a4_35 : Nat → Int32) (x_37 : Int32) (a5_39 : Nat → Int32) (self_J_36 : Int32 → (Nat → Int32) → Int32 × Int32 × (Nat → Int32) × (Nat → Int32)) : Int32 × Int32 × (Nat → Int32) × (Nat → Int32) :=
  if x_37.toInt ≥ p2.toInt then (f_m12_source_b_41 a4_35 a5_39) else (f_m12_source_b_43 a1 z_34 x_37 a5_39 self_J_36)
noncomputable def f_m12_source_j36 (p2 : Int32) (a1 : Nat → Int32) (z_34 : Int32) (a4_35 : Nat → Int32) (n : Nat) : Int32 → (Nat → Int32) → Int32 × Int32 × (Nat → Int32) × (Nat → Int32) :=
  Nat.rec (motive := fun _ => Int32 → (Nat → Int32) → Int32 × Int32 × (Nat → Int32) × (Nat → Int32)) (fun _ _ => (0, 0, (fun _ => 0), (fun _ => 0))) (fun _ sq_ x_37 a5_39 => f_m12_source_J_36 p2 a1 z_34 a4_35 x_37 a5_39 sq_) n
noncomputable def f_m12_source_b_32 (p0 : Int32) (p1 : Int32) (p2 : Int32) (a1 : Nat → Int32) (a4 : Nat → Int32) (a5 : Nat → Int32) : Int32 × Int32 × (Nat → Int32) × (Nat → Int32) :=
  let z_33 : Int32 := (3 : Int32) * p0
  let z_34 : Int32 := z_33 + p1
  let a4_35 : Nat → Int32 := upd a4 z_34.toNatClampNeg p2
  f_m12_source_j36 p2 a1 z_34 a4_35 201 ((0 : Int32)) a5
noncomputable def f_m12_source_b_54 (x_29 : Int32) (self_J_28 : Int32 → Int32 × Int32 × (Nat → Int32) × (Nat → Int32)) : Int32 × Int32 × (Nat → Int32) × (Nat → Int32) :=
  let z_55 : Int32 := x_29 + Int32.ofInt 1
  self_J_28 z_55
noncomputable def f_m12_source_b_56 (i0 : Int32) (a4 : Nat → Int32) (a5 : Nat → Int32) : Int32 × Int32 × (Nat → Int32) × (Nat → Int32) :=
  ((0 : Int32), i0, a4, a5)
noncomputable def f_m12_source_b_50 (i0 : Int32) (a1 : Nat → Int32) (a4 : Nat → Int32) (a5 : Nat → Int32) (x_29 : Int32) (self_J_28 : Int32 → Int32 × Int32 × (Nat → Int32) × (Nat → Int32)) : Int32 × Int32 × (Nat → Int32) × (Nat → Int32) :=
  let z_51 : Int32 := a1 x_29.toNatClampNeg
  let z_52 : Int32 := z_51 &&& (255 : Int32)
  if z_52.toInt < 160 then (f_m12_source_b_54 x_29 self_J_28) else (f_m12_source_b_56 i0 a4 a5)
noncomputable def f_m12_source_J_28 (p0 : Int32) (p1 : Int32) (p2 : Int32) (i0 : Int32) (a1 : Nat → Int32) (a4 : Nat → Int32) (a5 : Nat → Int32) (x_29 : Int32) (self_J_28 : Int32 → Int32 × Int32 × (Nat → Int32) × (Nat → Int32)) : Int32 × Int32 × (Nat → Int32) × (Nat → Int32) :=
  if x_29.toInt ≥ p2.toInt then (f_m12_source_b_32 p0 p1 p2 a1 a4 a5) else (f_m12_source_b_50 i0 a1 a4 a5 x_29 self_J_28)
noncomputable def f_m12_source_j28 (p0 : Int32) (p1 : Int32) (p2 : Int32) (i0 : Int32) (a1 : Nat → Int32) (a4 : Nat → Int32) (a5 : Nat → Int32) (n : Nat) : Int32 → Int32 × Int32 × (Nat → Int32) × (Nat → Int32) :=
  Nat.rec (motive := fun _ => Int32 → Int32 × Int32 × (Nat → Int32) × (Nat → Int32)) (fun _ => (0, 0, (fun _ => 0), (fun _ => 0))) (fun _ sq_ x_29 => f_m12_source_J_28 p0 p1 p2 i0 a1 a4 a5 x_29 sq_) n
noncomputable def f_m12_source_b_27 (p0 : Int32) (p1 : Int32) (p2 : Int32) (i0 : Int32) (a1 : Nat → Int32) (a4 : Nat → Int32) (a5 : Nat → Int32) : Int32 × Int32 × (Nat → Int32) × (Nat → Int32) :=
  f_m12_source_j28 p0 p1 p2 i0 a1 a4 a5 201 ((0 : Int32))
noncomputable def f_m12_source_b_58 (i0 : Int32) (a4 : Nat → Int32) (a5 : Nat → Int32) : Int32 × Int32 × (Nat → Int32) × (Nat → Int32) :=
  ((0 : Int32), i0, a4, a5)
noncomputable def f_m12_source_b_25 (p0 : Int32) (p1 : Int32) (p2 : Int32) (i0 : Int32) (a1 : Nat → Int32) (a4 : Nat → Int32) (a5 : Nat → Int32) : Int32 × Int32 × (Nat → Int32) × (Nat → Int32) :=
  if p2.toInt ≤ i0.toInt then (f_m12_source_b_27 p0 p1 p2 i0 a1 a4 a5) else (f_m12_source_b_58 i0 a4 a5)
noncomputable def f_m12_source_b_17 (p0 : Int32) (p1 : Int32) (p2 : Int32) (i0 : Int32) (a1 : Nat → Int32) (a4 : Nat → Int32) (a5 : Nat → Int32) : Int32 × Int32 × (Nat → Int32) × (Nat → Int32) :=
  let v_18 : Int32 := (F_m12_lies p2 (1 : Int32) (8 : Int32))
  if v_18.toInt = 0 then (f_m12_source_b_23 i0 a4 a5) else (f_m12_source_b_25 p0 p1 p2 i0 a1 a4 a5)
noncomputable def f_m12_source_b_9 (p0 : Int32) (p1 : Int32) (p2 : Int32) (i0 : Int32) (a1 : Nat → Int32) (a4 : Nat → Int32) (a5 : Nat → Int32) : Int32 × Int32 × (Nat → Int32) × (Nat → Int32) :=
  let v_10 : Int32 := (F_m12_lies p1 (0 : Int32) (2 : Int32))
  if v_10.toInt = 0 then (f_m12_source_b_15 i0 a4 a5) else (f_m12_source_b_17 p0 p1 p2 i0 a1 a4 a5)
noncomputable def F_m12_source (p0 : Int32) (p1 : Int32) (p2 : Int32) (i0 : Int32) (i2 : Int32) (a1 : Nat → Int32) (a4 : Nat → Int32) (a5 : Nat → Int32) : Int32 × Int32 × (Nat → Int32) × (Nat → Int32) :=
  let v_1 : Int32 := (F_m12_isVerse p0 i2)
  if v_1.toInt = 0 then (f_m12_source_b_7 i0 a4 a5) else (f_m12_source_b_9 p0 p1 p2 i0 a1 a4 a5)
noncomputable def f_m12_token_b_7  : Int32 :=
  (-1 : Int32)
noncomputable def f_m12_token_b_15  : Int32 :=
  (-1 : Int32)
noncomputable def f_m12_token_b_27  : Int32 :=
  (-1 : Int32)
noncomputable def f_m12_token_b_29 (p0 : Int32) (p1 : Int32) (p2 : Int32) (a5 : Nat → Int32) : Int32 :=
  let z_30 : Int32 := (3 : Int32) * p0
  let z_31 : Int32 := z_30 + p1
  let z_32 : Int32 := (8 : Int32) * z_31
  let z_33 : Int32 := z_32 + p2
  let z_34 : Int32 := a5 z_33.toNatClampNeg
  z_34
noncomputable def f_m12_token_b_17 (p0 : Int32) (p1 : Int32) (p2 : Int32) (a4 : Nat → Int32) (a5 : Nat → Int32) : Int32 :=
  let z_18 : Int32 := (3 : Int32) * p0
  let z_19 : Int32 := z_18 + p1
  let z_20 : Int32 := a4 z_19.toNatClampNeg
  let z_21 : Int32 := z_20 - (1 : Int32)
  let v_22 : Int32 := (F_m12_lies p2 (0 : Int32) z_21)
  if v_22.toInt = 0 then f_m12_token_b_27 else (f_m12_token_b_29 p0 p1 p2 a5)
noncomputable def f_m12_token_b_9 (p0 : Int32) (p1 : Int32) (p2 : Int32) (a4 : Nat → Int32) (a5 : Nat → Int32) : Int32 :=
  let v_10 : Int32 := (F_m12_lies p1 (0 : Int32) (2 : Int32))
  if v_10.toInt = 0 then f_m12_token_b_15 else (f_m12_token_b_17 p0 p1 p2 a4 a5)
noncomputable def F_m12_token (p0 : Int32) (p1 : Int32) (p2 : Int32) (i2 : Int32) (a4 : Nat → Int32) (a5 : Nat → Int32) : Int32 :=
  let v_1 : Int32 := (F_m12_isVerse p0 i2)
  if v_1.toInt = 0 then f_m12_token_b_7 else (f_m12_token_b_9 p0 p1 p2 a4 a5)
noncomputable def f_m12_isSmall_b_5  : Int32 :=
  (1 : Int32)
noncomputable def f_m12_isSmall_b_14 (x_2 : Int32) (self_J_1 : Int32 → Int32) : Int32 :=
  let z_15 : Int32 := x_2 + Int32.ofInt 1
  self_J_1 z_15
noncomputable def f_m12_isSmall_b_16  : Int32 :=
  (0 : Int32)
noncomputable def f_m12_isSmall_b_7 (a1 : Nat → Int32) (x_2 : Int32) (self_J_1 : Int32 → Int32) : Int32 :=
  let z_8 : Int32 := a1 x_2.toNatClampNeg
  let v_9 : Int32 := (F_m12_lies z_8 (97 : Int32) (122 : Int32))
  if v_9.toInt ≠ 0 then (f_m12_isSmall_b_14 x_2 self_J_1) else f_m12_isSmall_b_16
noncomputable def f_m12_isSmall_J_1 (p0 : Int32) (a1 : Nat → Int32) (x_2 : Int32) (self_J_1 : Int32 → Int32) : Int32 :=
  if x_2.toInt ≥ p0.toInt then f_m12_isSmall_b_5 else (f_m12_isSmall_b_7 a1 x_2 self_J_1)
noncomputable def f_m12_isSmall_j1 (p0 : Int32) (a1 : Nat → Int32) (n : Nat) : Int32 → Int32 :=
  Nat.rec (motive := fun _ => Int32 → Int32) (fun _ => 0) (fun _ sq_ x_2 => f_m12_isSmall_J_1 p0 a1 x_2 sq_) n
noncomputable def F_m12_isSmall (p0 : Int32) (a1 : Nat → Int32) : Int32 :=
  f_m12_isSmall_j1 p0 a1 201 ((0 : Int32))
noncomputable def f_m12_isOwn_b_8  : Int32 :=
  (1 : Int32)
noncomputable def f_m12_isOwn_b_16 (x_5 : Int32) (self_J_4 : Int32 → Int32) : Int32 :=
  let z_17 : Int32 := x_5 + Int32.ofInt 1
  self_J_4 z_17
noncomputable def f_m12_isOwn_b_18  : Int32 :=
  (0 : Int32)
noncomputable def f_m12_isOwn_b_10 (p0 : Int32) (a1 : Nat → Int32) (a13 : Nat → Int32) (x_5 : Int32) (self_J_4 : Int32 → Int32) : Int32 :=
  let z_11 : Int32 := (12 : Int32) * p0
  let z_12 : Int32 := z_11 + x_5
  let z_13 : Int32 := a13 z_12.toNatClampNeg
  let z_14 : Int32 := a1 x_5.toNatClampNeg
  if z_13.toInt = z_14.toInt then (f_m12_isOwn_b_16 x_5 self_J_4) else f_m12_isOwn_b_18
noncomputable def f_m12_isOwn_J_4 (p0 : Int32) (p1 : Int32) (a1 : Nat → Int32) (a13 : Nat → Int32) (x_5 : Int32) (self_J_4 : Int32 → Int32) : Int32 :=
  if x_5.toInt ≥ p1.toInt then f_m12_isOwn_b_8 else (f_m12_isOwn_b_10 p0 a1 a13 x_5 self_J_4)
noncomputable def f_m12_isOwn_j4 (p0 : Int32) (p1 : Int32) (a1 : Nat → Int32) (a13 : Nat → Int32) (n : Nat) : Int32 → Int32 :=
  Nat.rec (motive := fun _ => Int32 → Int32) (fun _ => 0) (fun _ sq_ x_5 => f_m12_isOwn_J_4 p0 p1 a1 a13 x_5 sq_) n
noncomputable def f_m12_isOwn_b_3 (p0 : Int32) (p1 : Int32) (a1 : Nat → Int32) (a13 : Nat → Int32) : Int32 :=
  f_m12_isOwn_j4 p0 p1 a1 a13 13 ((0 : Int32))
noncomputable def f_m12_isOwn_b_20  : Int32 :=
  (0 : Int32)
noncomputable def F_m12_isOwn (p0 : Int32) (p1 : Int32) (a1 : Nat → Int32) (a13 : Nat → Int32) (a14 : Nat → Int32) : Int32 :=
  let z_1 : Int32 := a14 p0.toNatClampNeg
  if z_1.toInt = p1.toInt then (f_m12_isOwn_b_3 p0 p1 a1 a13) else f_m12_isOwn_b_20
noncomputable def f_m12_word_b_2 (i0 : Int32) (i3 : Int32) (a13 : Nat → Int32) (a14 : Nat → Int32) : Int32 × Int32 × Int32 × (Nat → Int32) × (Nat → Int32) :=
  ((-1 : Int32), i0, i3, a13, a14)
noncomputable def f_m12_word_b_10 (i0 : Int32) (i3 : Int32) (a13 : Nat → Int32) (a14 : Nat → Int32) : Int32 × Int32 × Int32 × (Nat → Int32) × (Nat → Int32) :=
  ((-1 : Int32), i0, i3, a13, a14)
noncomputable def f_m12_word_b_14 (i0 : Int32) (i3 : Int32) (a13 : Nat → Int32) (a14 : Nat → Int32) : Int32 × Int32 × Int32 × (Nat → Int32) × (Nat → Int32) :=
  ((-1 : Int32), i0, i3, a13, a14)
noncomputable def f_m12_word_b_42 (i3 : Int32) (a14_36 : Nat → Int32) (a13_40 : Nat → Int32) : Int32 × Int32 × Int32 × (Nat → Int32) × (Nat → Int32) :=
  let z_43 : Int32 := i3 + (1 : Int32)
  let z_44 : Int32 := z_43 - (1 : Int32)
  (z_44, (0 : Int32), z_43, a13_40, a14_36)
noncomputable def f_m12_word_b_46 (i3 : Int32) (a1 : Nat → Int32) (x_38 : Int32) (a13_40 : Nat → Int32) (self_J_37 : Int32 → (Nat → Int32) → Int32 × Int32 × Int32 × (Nat → Int32) × (Nat → Int32)) : Int32 × Int32 × Int32 × (Nat → Int32) × (Nat → Int32) :=
  let z_47 : Int32 := (12 : Int32) * i3
  let z_48 : Int32 := z_47 + x_38
  let z_49 : Int32 := a1 x_38.toNatClampNeg
  let a13_50 : Nat → Int32 := upd a13_40 z_48.toNatClampNeg (vp_nar .byte z_49)
  let z_51 : Int32 := x_38 + Int32.ofInt 1
  self_J_37 z_51 a13_50
noncomputable def f_m12_word_J_37 (p0 : Int32) (i3 : Int32) (a1 : Nat → Int32) (a14_36 : Nat → Int32) (x_38 : Int32) (a13_40 : Nat → Int32) (self_J_37 : Int32 → (Nat → Int32) → Int32 × Int32 × Int32 × (Nat → Int32) × (Nat → Int32)) : Int32 × Int32 × Int32 × (Nat → Int32) × (Nat → Int32) :=
  if x_38.toInt ≥ p0.toInt then (f_m12_word_b_42 i3 a14_36 a13_40) else (f_m12_word_b_46 i3 a1 x_38 a13_40 self_J_37)
noncomputable def f_m12_word_j37 (p0 : Int32) (i3 : Int32) (a1 : Nat → Int32) (a14_36 : Nat → Int32) (n : Nat) : Int32 → (Nat → Int32) → Int32 × Int32 × Int32 × (Nat → Int32) × (Nat → Int32) :=
  Nat.rec (motive := fun _ => Int32 → (Nat → Int32) → Int32 × Int32 × Int32 × (Nat → Int32) × (Nat → Int32)) (fun _ _ => (0, 0, 0, (fun _ => 0), (fun _ => 0))) (fun _ sq_ x_38 a13_40 => f_m12_word_J_37 p0 i3 a1 a14_36 x_38 a13_40 sq_) n
noncomputable def f_m12_word_b_35 (p0 : Int32) (i3 : Int32) (a1 : Nat → Int32) (a13 : Nat → Int32) (a14 : Nat → Int32) : Int32 × Int32 × Int32 × (Nat → Int32) × (Nat → Int32) :=
  let a14_36 : Nat → Int32 := upd a14 i3.toNatClampNeg p0
  f_m12_word_j37 p0 i3 a1 a14_36 201 ((0 : Int32)) a13
noncomputable def f_m12_word_b_52 (x_30 : Int32) (self_J_29 : Int32 → Int32 × Int32 × Int32 × (Nat → Int32) × (Nat → Int32)) : Int32 × Int32 × Int32 × (Nat → Int32) × (Nat → Int32) :=
  let z_58 : Int32 := x_30 + Int32.ofInt 1
  self_J_29 z_58
noncomputable def f_m12_word_J_29 (p0 : Int32) (i3 : Int32) (a1 : Nat → Int32) (a13 : Nat → Int32) (a14 : Nat → Int32) (x_30 : Int32) (self_J_29 : Int32 → Int32 × Int32 × Int32 × (Nat → Int32) × (Nat → Int32)) : Int32 × Int32 × Int32 × (Nat → Int32) × (Nat → Int32) :=
  if x_30.toInt ≥ 4 then (f_m12_word_b_35 p0 i3 a1 a13 a14) else (f_m12_word_b_52 x_30 self_J_29)
noncomputable def f_m12_word_j29 (p0 : Int32) (i3 : Int32) (a1 : Nat → Int32) (a13 : Nat → Int32) (a14 : Nat → Int32) (n : Nat) : Int32 → Int32 × Int32 × Int32 × (Nat → Int32) × (Nat → Int32) :=
  Nat.rec (motive := fun _ => Int32 → Int32 × Int32 × Int32 × (Nat → Int32) × (Nat → Int32)) (fun _ => (0, 0, 0, (fun _ => 0), (fun _ => 0))) (fun _ sq_ x_30 => f_m12_word_J_29 p0 i3 a1 a13 a14 x_30 sq_) n
noncomputable def f_m12_word_b_28 (p0 : Int32) (i3 : Int32) (a1 : Nat → Int32) (a13 : Nat → Int32) (a14 : Nat → Int32) : Int32 × Int32 × Int32 × (Nat → Int32) × (Nat → Int32) :=
  f_m12_word_j29 p0 i3 a1 a13 a14 5 ((0 : Int32))
noncomputable def f_m12_word_b_66 (x_25 : Int32) (self_J_24 : Int32 → Int32 × Int32 × Int32 × (Nat → Int32) × (Nat → Int32)) : Int32 × Int32 × Int32 × (Nat → Int32) × (Nat → Int32) :=
  let z_67 : Int32 := x_25 + Int32.ofInt 1
  self_J_24 z_67
noncomputable def f_m12_word_b_68 (i0 : Int32) (i3 : Int32) (a13 : Nat → Int32) (a14 : Nat → Int32) : Int32 × Int32 × Int32 × (Nat → Int32) × (Nat → Int32) :=
  ((-1 : Int32), i0, i3, a13, a14)
noncomputable def f_m12_word_b_59 (p0 : Int32) (i0 : Int32) (i3 : Int32) (a1 : Nat → Int32) (a13 : Nat → Int32) (a14 : Nat → Int32) (x_25 : Int32) (self_J_24 : Int32 → Int32 × Int32 × Int32 × (Nat → Int32) × (Nat → Int32)) : Int32 × Int32 × Int32 × (Nat → Int32) × (Nat → Int32) :=
  let v_60 : Int32 := (F_m12_isOwn x_25 p0 a1 a13 a14)
  if v_60.toInt = 0 then (f_m12_word_b_66 x_25 self_J_24) else (f_m12_word_b_68 i0 i3 a13 a14)
noncomputable def f_m12_word_J_24 (p0 : Int32) (i0 : Int32) (i3 : Int32) (a1 : Nat → Int32) (a13 : Nat → Int32) (a14 : Nat → Int32) (x_25 : Int32) (self_J_24 : Int32 → Int32 × Int32 × Int32 × (Nat → Int32) × (Nat → Int32)) : Int32 × Int32 × Int32 × (Nat → Int32) × (Nat → Int32) :=
  if x_25.toInt ≥ i3.toInt then (f_m12_word_b_28 p0 i3 a1 a13 a14) else (f_m12_word_b_59 p0 i0 i3 a1 a13 a14 x_25 self_J_24)
noncomputable def f_m12_word_j24 (p0 : Int32) (i0 : Int32) (i3 : Int32) (a1 : Nat → Int32) (a13 : Nat → Int32) (a14 : Nat → Int32) (n : Nat) : Int32 → Int32 × Int32 × Int32 × (Nat → Int32) × (Nat → Int32) :=
  Nat.rec (motive := fun _ => Int32 → Int32 × Int32 × Int32 × (Nat → Int32) × (Nat → Int32)) (fun _ => (0, 0, 0, (fun _ => 0), (fun _ => 0))) (fun _ sq_ x_25 => f_m12_word_J_24 p0 i0 i3 a1 a13 a14 x_25 sq_) n
noncomputable def f_m12_word_b_23 (p0 : Int32) (i0 : Int32) (i3 : Int32) (a1 : Nat → Int32) (a13 : Nat → Int32) (a14 : Nat → Int32) : Int32 × Int32 × Int32 × (Nat → Int32) × (Nat → Int32) :=
  f_m12_word_j24 p0 i0 i3 a1 a13 a14 81 ((0 : Int32))
noncomputable def f_m12_word_b_70 (i0 : Int32) (i3 : Int32) (a13 : Nat → Int32) (a14 : Nat → Int32) : Int32 × Int32 × Int32 × (Nat → Int32) × (Nat → Int32) :=
  ((-1 : Int32), i0, i3, a13, a14)
noncomputable def f_m12_word_b_16 (p0 : Int32) (i0 : Int32) (i3 : Int32) (a1 : Nat → Int32) (a13 : Nat → Int32) (a14 : Nat → Int32) : Int32 × Int32 × Int32 × (Nat → Int32) × (Nat → Int32) :=
  let v_17 : Int32 := (F_m12_isSmall p0 a1)
  if v_17.toInt ≠ 0 then (f_m12_word_b_23 p0 i0 i3 a1 a13 a14) else (f_m12_word_b_70 i0 i3 a13 a14)
noncomputable def f_m12_word_b_12 (p0 : Int32) (i0 : Int32) (i3 : Int32) (a1 : Nat → Int32) (a13 : Nat → Int32) (a14 : Nat → Int32) : Int32 × Int32 × Int32 × (Nat → Int32) × (Nat → Int32) :=
  if p0.toInt > i0.toInt then (f_m12_word_b_14 i0 i3 a13 a14) else (f_m12_word_b_16 p0 i0 i3 a1 a13 a14)
noncomputable def f_m12_word_b_4 (p0 : Int32) (i0 : Int32) (i3 : Int32) (a1 : Nat → Int32) (a13 : Nat → Int32) (a14 : Nat → Int32) : Int32 × Int32 × Int32 × (Nat → Int32) × (Nat → Int32) :=
  let v_5 : Int32 := (F_m12_lies p0 (1 : Int32) (12 : Int32))
  if v_5.toInt = 0 then (f_m12_word_b_10 i0 i3 a13 a14) else (f_m12_word_b_12 p0 i0 i3 a1 a13 a14)
noncomputable def F_m12_word (p0 : Int32) (i0 : Int32) (i3 : Int32) (a1 : Nat → Int32) (a13 : Nat → Int32) (a14 : Nat → Int32) : Int32 × Int32 × Int32 × (Nat → Int32) × (Nat → Int32) :=
  if i3.toInt = 80 then (f_m12_word_b_2 i0 i3 a13 a14) else (f_m12_word_b_4 p0 i0 i3 a1 a13 a14)
noncomputable def f_m12_spell_b_6 (i0 : Int32) : Int32 :=
  i0
noncomputable def f_m12_spell_b_15 (i0 : Int32) : Int32 :=
  i0
noncomputable def f_m12_spell_b_23 (i0 : Int32) : Int32 :=
  i0
noncomputable def f_m12_spell_b_27 (i0 : Int32) : Int32 :=
  i0
noncomputable def f_m12_spell_b_36  : Int32 :=
  (0 : Int32)
noncomputable def f_m12_spell_b_43 (i0 : Int32) : Int32 :=
  i0
noncomputable def f_m12_spell_b_29 (p2 : Int32) (i0 : Int32) (a1 : Nat → Int32) : Int32 :=
  let v_30 : Int32 := (F_m12_isSmall p2 a1)
  if v_30.toInt ≠ 0 then f_m12_spell_b_36 else (f_m12_spell_b_43 i0)
noncomputable def f_m12_spell_b_25 (p2 : Int32) (i0 : Int32) (a1 : Nat → Int32) : Int32 :=
  if p2.toInt > i0.toInt then (f_m12_spell_b_27 i0) else (f_m12_spell_b_29 p2 i0 a1)
noncomputable def f_m12_spell_b_17 (p2 : Int32) (i0 : Int32) (a1 : Nat → Int32) : Int32 :=
  let v_18 : Int32 := (F_m12_lies p2 (1 : Int32) (12 : Int32))
  if v_18.toInt = 0 then (f_m12_spell_b_23 i0) else (f_m12_spell_b_25 p2 i0 a1)
noncomputable def f_m12_spell_b_8 (p1 : Int32) (p2 : Int32) (i0 : Int32) (i3 : Int32) (a1 : Nat → Int32) : Int32 :=
  let v_9 : Int32 := (F_m12_isWord p1 i3)
  if v_9.toInt = 0 then (f_m12_spell_b_15 i0) else (f_m12_spell_b_17 p2 i0 a1)
noncomputable def F_m12_spell (p0 : Int32) (p1 : Int32) (p2 : Int32) (i0 : Int32) (i3 : Int32) (a1 : Nat → Int32) : Int32 :=
  let v_1 : Int32 := (F_m12_lies p0 (0 : Int32) (3 : Int32))
  if v_1.toInt = 0 then (f_m12_spell_b_6 i0) else (f_m12_spell_b_8 p1 p2 i0 i3 a1)
noncomputable def f_m12_isVowel_b_2  : Int32 :=
  (1 : Int32)
noncomputable def f_m12_isVowel_b_6  : Int32 :=
  (1 : Int32)
noncomputable def f_m12_isVowel_b_10  : Int32 :=
  (1 : Int32)
noncomputable def f_m12_isVowel_b_14  : Int32 :=
  (1 : Int32)
noncomputable def f_m12_isVowel_b_18  : Int32 :=
  (1 : Int32)
noncomputable def f_m12_isVowel_b_22  : Int32 :=
  (0 : Int32)
noncomputable def f_m12_isVowel_b_24  : Int32 :=
  (1 : Int32)
noncomputable def f_m12_isVowel_b_20 (p0 : Int32) : Int32 :=
  if p0.toInt ≠ 121 then f_m12_isVowel_b_22 else f_m12_isVowel_b_24
noncomputable def f_m12_isVowel_b_16 (p0 : Int32) : Int32 :=
  if p0.toInt = 117 then f_m12_isVowel_b_18 else (f_m12_isVowel_b_20 p0)
noncomputable def f_m12_isVowel_b_12 (p0 : Int32) : Int32 :=
  if p0.toInt = 111 then f_m12_isVowel_b_14 else (f_m12_isVowel_b_16 p0)
noncomputable def f_m12_isVowel_b_8 (p0 : Int32) : Int32 :=
  if p0.toInt = 105 then f_m12_isVowel_b_10 else (f_m12_isVowel_b_12 p0)
noncomputable def f_m12_isVowel_b_4 (p0 : Int32) : Int32 :=
  if p0.toInt = 101 then f_m12_isVowel_b_6 else (f_m12_isVowel_b_8 p0)
noncomputable def F_m12_isVowel (p0 : Int32) : Int32 :=
  if p0.toInt = 97 then f_m12_isVowel_b_2 else (f_m12_isVowel_b_4 p0)
noncomputable def f_m12_syllablesOf_b_11  : Int32 :=
  (1 : Int32)
noncomputable def f_m12_syllablesOf_b_13 (x_2 : Int32) : Int32 :=
  x_2
noncomputable def f_m12_syllablesOf_b_9 (x_2 : Int32) : Int32 :=
  if x_2.toInt ≤ 0 then f_m12_syllablesOf_b_11 else (f_m12_syllablesOf_b_13 x_2)
noncomputable def f_m12_syllablesOf_b_24 (x_2 : Int32) (x_5 : Int32) (self_J_1 : Int32 → Int32 → Int32 → Int32) (v_19 : Int32) : Int32 :=
  let z_25 : Int32 := x_2 + (0 : Int32)
  let z_27 : Int32 := x_5 + Int32.ofInt 1
  self_J_1 z_25 v_19 z_27
noncomputable def f_m12_syllablesOf_b_30 (x_2 : Int32) (x_5 : Int32) (self_J_1 : Int32 → Int32 → Int32 → Int32) (v_19 : Int32) : Int32 :=
  let z_31 : Int32 := x_2 + (0 : Int32)
  let z_33 : Int32 := x_5 + Int32.ofInt 1
  self_J_1 z_31 v_19 z_33
noncomputable def f_m12_syllablesOf_b_34 (x_2 : Int32) (x_5 : Int32) (self_J_1 : Int32 → Int32 → Int32 → Int32) (v_19 : Int32) : Int32 :=
  let z_35 : Int32 := x_2 + (1 : Int32)
  let z_36 : Int32 := x_5 + Int32.ofInt 1
  self_J_1 z_35 v_19 z_36
noncomputable def f_m12_syllablesOf_b_28 (x_2 : Int32) (x_3 : Int32) (x_5 : Int32) (self_J_1 : Int32 → Int32 → Int32 → Int32) (v_19 : Int32) : Int32 :=
  if x_3.toInt ≠ 0 then (f_m12_syllablesOf_b_30 x_2 x_5 self_J_1 v_19) else (f_m12_syllablesOf_b_34 x_2 x_5 self_J_1 v_19)
noncomputable def f_m12_syllablesOf_b_15 (p0 : Int32) (a13 : Nat → Int32) (x_2 : Int32) (x_3 : Int32) (x_5 : Int32) (self_J_1 : Int32 → Int32 → Int32 → Int32) : Int32 :=
  let z_16 : Int32 := (12 : Int32) * p0
  let z_17 : Int32 := z_16 + x_5
  let z_18 : Int32 := a13 z_17.toNatClampNeg
  let v_19 : Int32 := (F_m12_isVowel z_18)
  if v_19.toInt = 0 then (f_m12_syllablesOf_b_24 x_2 x_5 self_J_1 v_19) else (f_m12_syllablesOf_b_28 x_2 x_3 x_5 self_J_1 v_19)
noncomputable def f_m12_syllablesOf_J_1 (p0 : Int32) (a13 : Nat → Int32) (a14 : Nat → Int32) (x_2 : Int32) (x_3 : Int32) (x_5 : Int32) (self_J_1 : Int32 → Int32 → Int32 → Int32) : Int32 :=
  let z_7 : Int32 := a14 p0.toNatClampNeg
  if x_5.toInt ≥ z_7.toInt then (f_m12_syllablesOf_b_9 x_2) else (f_m12_syllablesOf_b_15 p0 a13 x_2 x_3 x_5 self_J_1)
noncomputable def f_m12_syllablesOf_j1 (p0 : Int32) (a13 : Nat → Int32) (a14 : Nat → Int32) (n : Nat) : Int32 → Int32 → Int32 → Int32 :=
  Nat.rec (motive := fun _ => Int32 → Int32 → Int32 → Int32) (fun _ _ _ => 0) (fun _ sq_ x_2 x_3 x_5 => f_m12_syllablesOf_J_1 p0 a13 a14 x_2 x_3 x_5 sq_) n
noncomputable def F_m12_syllablesOf (p0 : Int32) (a13 : Nat → Int32) (a14 : Nat → Int32) : Int32 :=
  f_m12_syllablesOf_j1 p0 a13 a14 13 ((0 : Int32)) ((0 : Int32)) ((0 : Int32))
noncomputable def f_m12_syllables_b_7  : Int32 :=
  (-1 : Int32)
noncomputable def f_m12_syllables_b_9 (p0 : Int32) (a13 : Nat → Int32) (a14 : Nat → Int32) : Int32 :=
  let v_10 : Int32 := (F_m12_syllablesOf p0 a13 a14)
  v_10
noncomputable def F_m12_syllables (p0 : Int32) (i3 : Int32) (a13 : Nat → Int32) (a14 : Nat → Int32) : Int32 :=
  let v_1 : Int32 := (F_m12_isWord p0 i3)
  if v_1.toInt = 0 then f_m12_syllables_b_7 else (f_m12_syllables_b_9 p0 a13 a14)
noncomputable def f_m12_company_b_2 (i4 : Int32) (a8 : Nat → Int32) : Int32 × Int32 × (Nat → Int32) :=
  ((-1 : Int32), i4, a8)
