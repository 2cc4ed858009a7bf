noncomputable def f_x11_isDay_b_2  : Int32 :=
  (0 : Int32)
noncomputable def f_x11_isDay_b_6  : Int32 :=
  (0 : Int32)
noncomputable def f_x11_isDay_b_8  : Int32 :=
  (1 : Int32)
noncomputable def f_x11_isDay_b_4 (u0 : Int32) : Int32 :=
  if u0.toInt > 3999 then f_x11_isDay_b_6 else f_x11_isDay_b_8
noncomputable def F_x11_isDay (u0 : Int32) : Int32 :=
  if u0.toInt < 0 then f_x11_isDay_b_2 else (f_x11_isDay_b_4 u0)
noncomputable def f_x11_now_b_6 (i1 : Int32) : Int32 × Int32 :=
  ((0 : Int32), i1)
noncomputable def f_x11_now_b_10 (u0 : Int32) : Int32 × Int32 :=
  ((1 : Int32), u0)
noncomputable def f_x11_now_b_12 (i1 : Int32) : Int32 × Int32 :=
  ((0 : Int32), i1)
noncomputable def f_x11_now_b_8 (u0 : Int32) (i1 : Int32) : Int32 × Int32 :=
  if u0.toInt ≥ i1.toInt then (f_x11_now_b_10 u0) else (f_x11_now_b_12 i1)
noncomputable def F_x11_now (u0 : Int32) (i1 : Int32) : Int32 × Int32 :=
  let v_1 : Int32 := (F_x11_isDay u0)
  if v_1.toInt = 0 then (f_x11_now_b_6 i1) else (f_x11_now_b_8 u0 i1)
noncomputable def f_x11_putFour_b_8 (i0_4 : Int32) (a1_5 : Nat → Int32) : Int32 × (Nat → Int32) :=
  (i0_4, a1_5)
noncomputable def f_x11_putFour_b_11 (x_2 : Int32) (i0_4 : Int32) (a1_5 : Nat → Int32) (self_J_1 : Int32 → Int32 → (Nat → Int32) → Int32 × (Nat → Int32)) : Int32 × (Nat → Int32) :=
  let z_12 : Int32 := x_2 + Int32.ofInt (-8)
  self_J_1 z_12 i0_4 a1_5
noncomputable def f_x11_putFour_b_13 (u0 : Int32) (x_2 : Int32) (i0_4 : Int32) (a1_5 : Nat → Int32) (self_J_1 : Int32 → Int32 → (Nat → Int32) → Int32 × (Nat → Int32)) : Int32 × (Nat → Int32) :=
  let z_14 : Int32 := (u0.toUInt32 >>> (x_2.toUInt32 &&& Int32.toUInt32 31)).toInt32
  let z_15 : Int32 := z_14 &&& (255 : Int32)
  let a1_16 : Nat → Int32 := upd a1_5 i0_4.toNatClampNeg z_15
  let z_17 : Int32 := i0_4 + (1 : Int32)
  let z_18 : Int32 := x_2 + Int32.ofInt (-8)
  self_J_1 z_18 z_17 a1_16
noncomputable def f_x11_putFour_b_9 (u0 : Int32) (x_2 : Int32) (i0_4 : Int32) (a1_5 : Nat → Int32) (self_J_1 : Int32 → Int32 → (Nat → Int32) → Int32 × (Nat → Int32)) : Int32 × (Nat → Int32) :=
  if i0_4.toInt ≥ 200 then (f_x11_putFour_b_11 x_2 i0_4 a1_5 self_J_1) else (f_x11_putFour_b_13 u0 x_2 i0_4 a1_5 self_J_1)
noncomputable def f_x11_putFour_J_1 (u0 : Int32) (x_2 : Int32) (i0_4 : Int32) (a1_5 : Nat → Int32) (self_J_1 : Int32 → Int32 → (Nat → Int32) → Int32 × (Nat → Int32)) : Int32 × (Nat → Int32) :=
  if x_2.toInt < 0 then (f_x11_putFour_b_8 i0_4 a1_5) else (f_x11_putFour_b_9 u0 x_2 i0_4 a1_5 self_J_1)
noncomputable def f_x11_putFour_j1 (u0 : Int32) (n : Nat) : Int32 → Int32 → (Nat → Int32) → Int32 × (Nat → Int32) :=
  Nat.rec (motive := fun _ => Int32 → Int32 → (Nat → Int32) → Int32 × (Nat → Int32)) (fun _ _ _ => (0, (fun _ => 0))) (fun _ sq_ x_2 i0_4 a1_5 => f_x11_putFour_J_1 u0 x_2 i0_4 a1_5 sq_) n
noncomputable def F_x11_putFour (u0 : Int32) (i0 : Int32) (a1 : Nat → Int32) : Int32 × (Nat → Int32) :=
  f_x11_putFour_j1 u0 33 ((24 : Int32)) i0 a1
noncomputable def f_x11_feed_b_3 (u0 : Int32) (u1 : Int32) (u2 : Int32) (u3 : Int32) (u4 : Int32) (i0 : Int32) (a1 : Nat → Int32) : Int32 × Int32 × (Nat → Int32) :=
  let i0_7 : Int32 := (F_x11_putFour u0 i0 a1).1
  let a1_8 : Nat → Int32 := (F_x11_putFour u0 i0 a1).2
  let i0_15 : Int32 := (F_x11_putFour u1 i0_7 a1_8).1
  let a1_16 : Nat → Int32 := (F_x11_putFour u1 i0_7 a1_8).2
  let i0_23 : Int32 := (F_x11_putFour u2 i0_15 a1_16).1
  let a1_24 : Nat → Int32 := (F_x11_putFour u2 i0_15 a1_16).2
  let i0_31 : Int32 := (F_x11_putFour u3 i0_23 a1_24).1
  let a1_32 : Nat → Int32 := (F_x11_putFour u3 i0_23 a1_24).2
  let i0_39 : Int32 := (F_x11_putFour u4 i0_31 a1_32).1
  let a1_40 : Nat → Int32 := (F_x11_putFour u4 i0_31 a1_32).2
  (i0_39, i0_39, a1_40)
noncomputable def f_x11_feed_b_45 (i0 : Int32) (a1 : Nat → Int32) : Int32 × Int32 × (Nat → Int32) :=
  ((-1 : Int32), i0, a1)
noncomputable def F_x11_feed (u0 : Int32) (u1 : Int32) (u2 : Int32) (u3 : Int32) (u4 : Int32) (i0 : Int32) (a1 : Nat → Int32) : Int32 × Int32 × (Nat → Int32) :=
  let z_1 : Int32 := i0 + (20 : Int32)
  if z_1.toInt ≤ 200 then (f_x11_feed_b_3 u0 u1 u2 u3 u4 i0 a1) else (f_x11_feed_b_45 i0 a1)
noncomputable def f_x9_enter_b_2 (u0 : Int32) (u1 : Int32) (i3 : Int32) (a7 : Nat → Int32) (a8 : Nat → Int32) : Int32 × Int32 × (Nat → Int32) × (Nat → Int32) :=
  let a7_3 : Nat → Int32 := upd a7 i3.toNatClampNeg u0
  let a8_4 : Nat → Int32 := upd a8 i3.toNatClampNeg u1
  let z_5 : Int32 := i3 + (1 : Int32)
  let z_6 : Int32 := z_5 - (1 : Int32)
  (z_6, z_5, a7_3, a8_4)
noncomputable def f_x9_enter_b_8 (i3 : Int32) (a7 : Nat → Int32) (a8 : Nat → Int32) : Int32 × Int32 × (Nat → Int32) × (Nat → Int32) :=
  ((-1 : Int32), i3, a7, a8)
noncomputable def F_x9_enter (u0 : Int32) (u1 : Int32) (i3 : Int32) (a7 : Nat → Int32) (a8 : Nat → Int32) : Int32 × Int32 × (Nat → Int32) × (Nat → Int32) :=
  if i3.toInt < 60 then (f_x9_enter_b_2 u0 u1 i3 a7 a8) else (f_x9_enter_b_8 i3 a7 a8)
noncomputable def f_x11_verse_b_2 (i3 : Int32) (a7 : Nat → Int32) (a8 : Nat → Int32) : Int32 × Int32 × (Nat → Int32) × (Nat → Int32) :=
  ((-1 : Int32), i3, a7, a8)
noncomputable def f_x11_verse_b_6 (i3 : Int32) (a7 : Nat → Int32) (a8 : Nat → Int32) : Int32 × Int32 × (Nat → Int32) × (Nat → Int32) :=
  ((-1 : Int32), i3, a7, a8)
noncomputable def f_x11_verse_b_10 (i3 : Int32) (a7 : Nat → Int32) (a8 : Nat → Int32) : Int32 × Int32 × (Nat → Int32) × (Nat → Int32) :=
  ((-1 : Int32), i3, a7, a8)
noncomputable def f_x11_verse_b_14 (u0 : Int32) (u1 : Int32) (i3 : Int32) (a7 : Nat → Int32) (a8 : Nat → Int32) : Int32 × Int32 × (Nat → Int32) × (Nat → Int32) :=
  let v_15 : Int32 := (F_x9_enter u0 u1 i3 a7 a8).1
  let i3_18 : Int32 := (F_x9_enter u0 u1 i3 a7 a8).2.1
  let a7_19 : Nat → Int32 := (F_x9_enter u0 u1 i3 a7 a8).2.2.1
  let a8_20 : Nat → Int32 := (F_x9_enter u0 u1 i3 a7 a8).2.2.2
  (v_15, i3_18, a7_19, a8_20)
noncomputable def f_x11_verse_b_28 (i3 : Int32) (a7 : Nat → Int32) (a8 : Nat → Int32) : Int32 × Int32 × (Nat → Int32) × (Nat → Int32) :=
  ((-1 : Int32), i3, a7, a8)
noncomputable def f_x11_verse_b_12 (u0 : Int32) (u1 : Int32) (i3 : Int32) (a7 : Nat → Int32) (a8 : Nat → Int32) : Int32 × Int32 × (Nat → Int32) × (Nat → Int32) :=
  if u1.toInt ≤ 40 then (f_x11_verse_b_14 u0 u1 i3 a7 a8) else (f_x11_verse_b_28 i3 a7 a8)
noncomputable def f_x11_verse_b_8 (u0 : Int32) (u1 : Int32) (i3 : Int32) (a7 : Nat → Int32) (a8 : Nat → Int32) : Int32 × Int32 × (Nat → Int32) × (Nat → Int32) :=
  if u1.toInt < 0 then (f_x11_verse_b_10 i3 a7 a8) else (f_x11_verse_b_12 u0 u1 i3 a7 a8)
noncomputable def f_x11_verse_b_4 (u0 : Int32) (u1 : Int32) (i3 : Int32) (a7 : Nat → Int32) (a8 : Nat → Int32) : Int32 × Int32 × (Nat → Int32) × (Nat → Int32) :=
  if u0.toInt > 7 then (f_x11_verse_b_6 i3 a7 a8) else (f_x11_verse_b_8 u0 u1 i3 a7 a8)
noncomputable def F_x11_verse (u0 : Int32) (u1 : Int32) (i3 : Int32) (a7 : Nat → Int32) (a8 : Nat → Int32) : Int32 × Int32 × (Nat → Int32) × (Nat → Int32) :=
  if u0.toInt < 0 then (f_x11_verse_b_2 i3 a7 a8) else (f_x11_verse_b_4 u0 u1 i3 a7 a8)
noncomputable def f_x9_has_b_2  : Int32 :=
  (0 : Int32)
noncomputable def f_x9_has_b_6  : Int32 :=
  (0 : Int32)
noncomputable def f_x9_has_b_8  : Int32 :=
  (1 : Int32)
noncomputable def f_x9_has_b_4 (u0 : Int32) (i3 : Int32) : Int32 :=
  if u0.toInt ≥ i3.toInt then f_x9_has_b_6 else f_x9_has_b_8
noncomputable def F_x9_has (u0 : Int32) (i3 : Int32) : Int32 :=
  if u0.toInt < 0 then f_x9_has_b_2 else (f_x9_has_b_4 u0 i3)
noncomputable def f_x11_isCopy_b_2  : Int32 :=
  (0 : Int32)
noncomputable def f_x11_isCopy_b_6  : Int32 :=
  (0 : Int32)
noncomputable def f_x11_isCopy_b_8  : Int32 :=
  (1 : Int32)
noncomputable def f_x11_isCopy_b_4 (u0 : Int32) : Int32 :=
  if u0.toInt > 2 then f_x11_isCopy_b_6 else f_x11_isCopy_b_8
noncomputable def F_x11_isCopy (u0 : Int32) : Int32 :=
  if u0.toInt < 0 then f_x11_isCopy_b_2 else (f_x11_isCopy_b_4 u0)
noncomputable def f_x11_tapeHas_b_2  : Int32 :=
  (0 : Int32)
noncomputable def f_x11_tapeHas_b_6  : Int32 :=
  (0 : Int32)
noncomputable def f_x11_tapeHas_b_10  : Int32 :=
  (0 : Int32)
noncomputable def f_x11_tapeHas_b_12  : Int32 :=
  (1 : Int32)
noncomputable def f_x11_tapeHas_b_8 (u0 : Int32) (i0 : Int32) : Int32 :=
  if u0.toInt > i0.toInt then f_x11_tapeHas_b_10 else f_x11_tapeHas_b_12
noncomputable def f_x11_tapeHas_b_4 (u0 : Int32) (u1 : Int32) (i0 : Int32) : Int32 :=
  if u0.toInt > u1.toInt then f_x11_tapeHas_b_6 else (f_x11_tapeHas_b_8 u0 i0)
noncomputable def F_x11_tapeHas (u0 : Int32) (u1 : Int32) (i0 : Int32) : Int32 :=
  if u0.toInt < 1 then f_x11_tapeHas_b_2 else (f_x11_tapeHas_b_4 u0 u1 i0)
noncomputable def f_x11_tapeHasTokens_b_5  : Int32 :=
  (1 : Int32)
noncomputable def f_x11_tapeHasTokens_b_10 (x_2 : Int32) (self_J_1 : Int32 → Int32) : Int32 :=
  let z_11 : Int32 := x_2 + Int32.ofInt 1
  self_J_1 z_11
noncomputable def f_x11_tapeHasTokens_b_12  : Int32 :=
  (0 : Int32)
noncomputable def f_x11_tapeHasTokens_b_7 (a1 : Nat → Int32) (x_2 : Int32) (self_J_1 : Int32 → Int32) : Int32 :=
  let z_8 : Int32 := a1 x_2.toNatClampNeg
  if z_8.toInt < 160 then (f_x11_tapeHasTokens_b_10 x_2 self_J_1) else f_x11_tapeHasTokens_b_12
noncomputable def f_x11_tapeHasTokens_J_1 (u0 : Int32) (a1 : Nat → Int32) (x_2 : Int32) (self_J_1 : Int32 → Int32) : Int32 :=
  if x_2.toInt ≥ u0.toInt then f_x11_tapeHasTokens_b_5 else (f_x11_tapeHasTokens_b_7 a1 x_2 self_J_1)
noncomputable def f_x11_tapeHasTokens_j1 (u0 : Int32) (a1 : Nat → Int32) (n : Nat) : Int32 → Int32 :=
  Nat.rec (motive := fun _ => Int32 → Int32) (fun _ => 0) (fun _ sq_ x_2 => f_x11_tapeHasTokens_J_1 u0 a1 x_2 sq_) n
noncomputable def F_x11_tapeHasTokens (u0 : Int32) (a1 : Nat → Int32) : Int32 :=
  f_x11_tapeHasTokens_j1 u0 a1 201 ((0 : Int32))
noncomputable def f_x9_putRow_b_7 (r9n : Nat → Nat) (r9c : Nat → Nat → Int32) : (Nat → Nat) × (Nat → Nat → Int32) :=
  (r9n, r9c)
noncomputable def f_x9_putRow_b_14 (r9n : Nat → Nat) (r9c : Nat → Nat → Int32) : (Nat → Nat) × (Nat → Nat → Int32) :=
  (r9n, r9c)
noncomputable def f_x9_putRow_b_27 (u0 : Int32) (u1 : Int32) (r9n : Nat → Nat) (r9c : Nat → Nat → Int32) (N_20 : Nat) (g_25 : Nat → Int32) : (Nat → Nat) × (Nat → Nat → Int32) :=
  let z_28 : Int32 := u0 * (3 : Int32)
  let z_29 : Int32 := z_28 + u1
  let r9n_32 : Nat → Nat := up9n r9n z_29.toNatClampNeg (N_20 + 1)
  let r9c_33 : Nat → Nat → Int32 := up9c r9c z_29.toNatClampNeg g_25
  (r9n_32, r9c_33)
noncomputable def f_x9_putRow_b_34 (a1 : Nat → Int32) (x_23 : Int32) (g_25 : Nat → Int32) (self_J_22 : Int32 → (Nat → Int32) → (Nat → Nat) × (Nat → Nat → Int32)) : (Nat → Nat) × (Nat → Nat → Int32) :=
  let z_35 : Int32 := a1 x_23.toNatClampNeg
  let g_36 : Nat → Int32 := upd g_25 x_23.toNatClampNeg z_35
  let z_37 : Int32 := x_23 + Int32.ofInt 1
  self_J_22 z_37 g_36
noncomputable def f_x9_putRow_J_22 (u0 : Int32) (u1 : Int32) (u3 : Int32) (a1 : Nat → Int32) (r9n : Nat → Nat) (r9c : Nat → Nat → Int32) (N_20 : Nat) (x_23 : Int32) (g_25 : Nat → Int32) (self_J_22 : Int32 → (Nat → Int32) → (Nat → Nat) × (Nat → Nat → Int32)) : (Nat → Nat) × (Nat → Nat → Int32) :=
  if x_23.toInt ≥ u3.toInt then (f_x9_putRow_b_27 u0 u1 r9n r9c N_20 g_25) else (f_x9_putRow_b_34 a1 x_23 g_25 self_J_22)
noncomputable def f_x9_putRow_j22 (u0 : Int32) (u1 : Int32) (u3 : Int32) (a1 : Nat → Int32) (r9n : Nat → Nat) (r9c : Nat → Nat → Int32) (N_20 : Nat) (n : Nat) : Int32 → (Nat → Int32) → (Nat → Nat) × (Nat → Nat → Int32) :=
  Nat.rec (motive := fun _ => Int32 → (Nat → Int32) → (Nat → Nat) × (Nat → Nat → Int32)) (fun _ _ => ((fun _ => 0), (fun _ _ => 0))) (fun _ sq_ x_23 g_25 => f_x9_putRow_J_22 u0 u1 u3 a1 r9n r9c N_20 x_23 g_25 sq_) n
noncomputable def f_x9_putRow_b_19 (u0 : Int32) (u1 : Int32) (u3 : Int32) (a1 : Nat → Int32) (r9n : Nat → Nat) (r9c : Nat → Nat → Int32) : (Nat → Nat) × (Nat → Nat → Int32) :=
  let N_20 : Nat := u3.toNatClampNeg
  f_x9_putRow_j22 u0 u1 u3 a1 r9n r9c N_20 9 ((0 : Int32)) z0
noncomputable def f_x9_putRow_b_17 (u0 : Int32) (u1 : Int32) (u3 : Int32) (a1 : Nat → Int32) (r9n : Nat → Nat) (r9c : Nat → Nat → Int32) : (Nat → Nat) × (Nat → Nat → Int32) :=
  (f_x9_putRow_b_19 u0 u1 u3 a1 r9n r9c)
noncomputable def f_x9_putRow_b_15 (u0 : Int32) (u1 : Int32) (u3 : Int32) (a1 : Nat → Int32) (r9n : Nat → Nat) (r9c : Nat → Nat → Int32) : (Nat → Nat) × (Nat → Nat → Int32) :=
  (f_x9_putRow_b_17 u0 u1 u3 a1 r9n r9c)
noncomputable def f_x9_putRow_b_8 (u0 : Int32) (u1 : Int32) (u3 : Int32) (a1 : Nat → Int32) (r9n : Nat → Nat) (r9c : Nat → Nat → Int32) : (Nat → Nat) × (Nat → Nat → Int32) :=
  let v_9 : Int32 := (F_x11_isCopy u1)
  if v_9.toInt = 0 then (f_x9_putRow_b_14 r9n r9c) else (f_x9_putRow_b_15 u0 u1 u3 a1 r9n r9c)
noncomputable def F_x9_putRow (u0 : Int32) (u1 : Int32) (u3 : Int32) (i3 : Int32) (a1 : Nat → Int32) (r9n : Nat → Nat) (r9c : Nat → Nat → Int32) : (Nat → Nat) × (Nat → Nat → Int32) :=
  let v_1 : Int32 := (F_x9_has u0 i3)
  if v_1.toInt = 0 then (f_x9_putRow_b_7 r9n r9c) else (f_x9_putRow_b_8 u0 u1 u3 a1 r9n r9c)
noncomputable def f_x11_source_b_7 (i0 : Int32) (r9n : Nat → Nat) (r9c : Nat → Nat → Int32) : Int32 × Int32 × (Nat → Nat) × (Nat → Nat → Int32) :=
  ((0 : Int32), i0, r9n, r9c)
noncomputable def f_x11_source_b_15 (i0 : Int32) (r9n : Nat → Nat) (r9c : Nat → Nat → Int32) : Int32 × Int32 × (Nat → Nat) × (Nat → Nat → Int32) :=
  ((0 : Int32), i0, r9n, r9c)
noncomputable def f_x11_source_b_24 (i0 : Int32) (r9n : Nat → Nat) (r9c : Nat → Nat → Int32) : Int32 × Int32 × (Nat → Nat) × (Nat → Nat → Int32) :=
  ((0 : Int32), i0, r9n, r9c)
noncomputable def f_x11_source_b_33 (u0 : Int32) (u1 : Int32) (u2 : Int32) (i3 : Int32) (a1 : Nat → Int32) (r9n : Nat → Nat) (r9c : Nat → Nat → Int32) : Int32 × Int32 × (Nat → Nat) × (Nat → Nat → Int32) :=
  let r9n_37 : Nat → Nat := (F_x9_putRow u0 u1 u2 i3 a1 r9n r9c).1
  let r9c_38 : Nat → Nat → Int32 := (F_x9_putRow u0 u1 u2 i3 a1 r9n r9c).2
  ((1 : Int32), (0 : Int32), r9n_37, r9c_38)
noncomputable def f_x11_source_b_44 (i0 : Int32) (r9n : Nat → Nat) (r9c : Nat → Nat → Int32) : Int32 × Int32 × (Nat → Nat) × (Nat → Nat → Int32) :=
  ((0 : Int32), i0, r9n, r9c)
noncomputable def f_x11_source_b_26 (u0 : Int32) (u1 : Int32) (u2 : Int32) (i0 : Int32) (i3 : Int32) (a1 : Nat → Int32) (r9n : Nat → Nat) (r9c : Nat → Nat → Int32) : Int32 × Int32 × (Nat → Nat) × (Nat → Nat → Int32) :=
  let v_27 : Int32 := (F_x11_tapeHasTokens u2 a1)
  if v_27.toInt ≠ 0 then (f_x11_source_b_33 u0 u1 u2 i3 a1 r9n r9c) else (f_x11_source_b_44 i0 r9n r9c)
noncomputable def f_x11_source_b_17 (u0 : Int32) (u1 : Int32) (u2 : Int32) (i0 : Int32) (i3 : Int32) (a1 : Nat → Int32) (r9n : Nat → Nat) (r9c : Nat → Nat → Int32) : Int32 × Int32 × (Nat → Nat) × (Nat → Nat → Int32) :=
  let v_18 : Int32 := (F_x11_tapeHas u2 (8 : Int32) i0)
  if v_18.toInt = 0 then (f_x11_source_b_24 i0 r9n r9c) else (f_x11_source_b_26 u0 u1 u2 i0 i3 a1 r9n r9c)
noncomputable def f_x11_source_b_9 (u0 : Int32) (u1 : Int32) (u2 : Int32) (i0 : Int32) (i3 : Int32) (a1 : Nat → Int32) (r9n : Nat → Nat) (r9c : Nat → Nat → Int32) : Int32 × Int32 × (Nat → Nat) × (Nat → Nat → Int32) :=
  let v_10 : Int32 := (F_x11_isCopy u1)
  if v_10.toInt = 0 then (f_x11_source_b_15 i0 r9n r9c) else (f_x11_source_b_17 u0 u1 u2 i0 i3 a1 r9n r9c)
noncomputable def F_x11_source (u0 : Int32) (u1 : Int32) (u2 : Int32) (i0 : Int32) (i3 : Int32) (a1 : Nat → Int32) (r9n : Nat → Nat) (r9c : Nat → Nat → Int32) : Int32 × Int32 × (Nat → Nat) × (Nat → Nat → Int32) :=
  let v_1 : Int32 := (F_x9_has u0 i3)
  if v_1.toInt = 0 then (f_x11_source_b_7 i0 r9n r9c) else (f_x11_source_b_9 u0 u1 u2 i0 i3 a1 r9n r9c)
noncomputable def f_x11_tapeHasLetters_b_5  : Int32 :=
  (1 : Int32)
noncomputable def f_x11_tapeHasLetters_b_10  : Int32 :=
  (0 : Int32)
noncomputable def f_x11_tapeHasLetters_b_15 (x_2 : Int32) (self_J_1 : Int32 → Int32) : Int32 :=
  let z_16 : Int32 := x_2 + Int32.ofInt 1
  self_J_1 z_16
noncomputable def f_x11_tapeHasLetters_b_17  : Int32 :=
  (0 : Int32)
noncomputable def f_x11_tapeHasLetters_b_12 (a1 : Nat → Int32) (x_2 : Int32) (self_J_1 : Int32 → Int32) : Int32 :=
  let z_13 : Int32 := a1 x_2.toNatClampNeg
  if z_13.toInt ≤ 122 then (f_x11_tapeHasLetters_b_15 x_2 self_J_1) else f_x11_tapeHasLetters_b_17
noncomputable def f_x11_tapeHasLetters_b_7 (a1 : Nat → Int32) (x_2 : Int32) (self_J_1 : Int32 → Int32) : Int32 :=
  let z_8 : Int32 := a1 x_2.toNatClampNeg
  if z_8.toInt < 97 then f_x11_tapeHasLetters_b_10 else (f_x11_tapeHasLetters_b_12 a1 x_2 self_J_1)
noncomputable def f_x11_tapeHasLetters_J_1 (u0 : Int32) (a1 : Nat → Int32) (x_2 : Int32) (self_J_1 : Int32 → Int32) : Int32 :=
  if x_2.toInt ≥ u0.toInt then f_x11_tapeHasLetters_b_5 else (f_x11_tapeHasLetters_b_7 a1 x_2 self_J_1)
noncomputable def f_x11_tapeHasLetters_j1 (u0 : Int32) (a1 : Nat → Int32) (n : Nat) : Int32 → Int32 :=
  Nat.rec (motive := fun _ => Int32 → Int32) (fun _ => 0) (fun _ sq_ x_2 => f_x11_tapeHasLetters_J_1 u0 a1 x_2 sq_) n
noncomputable def F_x11_tapeHasLetters (u0 : Int32) (a1 : Nat → Int32) : Int32 :=
  f_x11_tapeHasLetters_j1 u0 a1 201 ((0 : Int32))
noncomputable def f_x10_isSpelledSo_b_8  : Int32 :=
  (1 : Int32)
noncomputable def f_x10_isSpelledSo_b_16 (x_5 : Int32) (self_J_4 : Int32 → Int32) : Int32 :=
  let z_17 : Int32 := x_5 + Int32.ofInt 1
  self_J_4 z_17
noncomputable def f_x10_isSpelledSo_b_18  : Int32 :=
  (0 : Int32)
noncomputable def f_x10_isSpelledSo_b_10 (u0 : Int32) (a1 : Nat → Int32) (a4 : Nat → Int32) (x_5 : Int32) (self_J_4 : Int32 → Int32) : Int32 :=
  let z_11 : Int32 := u0 * (12 : Int32)
  let z_12 : Int32 := z_11 + x_5
  let z_13 : Int32 := a4 z_12.toNatClampNeg
  let z_14 : Int32 := a1 x_5.toNatClampNeg
  if z_13.toInt = z_14.toInt then (f_x10_isSpelledSo_b_16 x_5 self_J_4) else f_x10_isSpelledSo_b_18
noncomputable def f_x10_isSpelledSo_J_4 (u0 : Int32) (u2 : Int32) (a1 : Nat → Int32) (a4 : Nat → Int32) (x_5 : Int32) (self_J_4 : Int32 → Int32) : Int32 :=
  if x_5.toInt ≥ u2.toInt then f_x10_isSpelledSo_b_8 else (f_x10_isSpelledSo_b_10 u0 a1 a4 x_5 self_J_4)
noncomputable def f_x10_isSpelledSo_j4 (u0 : Int32) (u2 : Int32) (a1 : Nat → Int32) (a4 : Nat → Int32) (n : Nat) : Int32 → Int32 :=
  Nat.rec (motive := fun _ => Int32 → Int32) (fun _ => 0) (fun _ sq_ x_5 => f_x10_isSpelledSo_J_4 u0 u2 a1 a4 x_5 sq_) n
noncomputable def f_x10_isSpelledSo_b_3 (u0 : Int32) (u2 : Int32) (a1 : Nat → Int32) (a4 : Nat → Int32) : Int32 :=
  f_x10_isSpelledSo_j4 u0 u2 a1 a4 13 ((0 : Int32))
noncomputable def f_x10_isSpelledSo_b_20  : Int32 :=
  (0 : Int32)
noncomputable def F_x10_isSpelledSo (u0 : Int32) (u2 : Int32) (a1 : Nat → Int32) (a4 : Nat → Int32) (a5 : Nat → Int32) : Int32 :=
  let z_1 : Int32 := a5 u0.toNatClampNeg
  if z_1.toInt = u2.toInt then (f_x10_isSpelledSo_b_3 u0 u2 a1 a4) else f_x10_isSpelledSo_b_20
noncomputable def f_x10_isThere_b_5  : Int32 :=
  (0 : Int32)
noncomputable def f_x10_isThere_b_15 (x_2 : Int32) (self_J_1 : Int32 → Int32) : Int32 :=
  let z_16 : Int32 := x_2 + Int32.ofInt 1
  self_J_1 z_16
noncomputable def f_x10_isThere_b_17  : Int32 :=
  (1 : Int32)
noncomputable def f_x10_isThere_b_7 (u1 : Int32) (a1 : Nat → Int32) (a4 : Nat → Int32) (a5 : Nat → Int32) (x_2 : Int32) (self_J_1 : Int32 → Int32) : Int32 :=
  let z_8 : Int32 := x_2 * (5 : Int32)
  let v_9 : Int32 := (F_x10_isSpelledSo z_8 u1 a1 a4 a5)
  if v_9.toInt = 0 then (f_x10_isThere_b_15 x_2 self_J_1) else f_x10_isThere_b_17
noncomputable def f_x10_isThere_J_1 (u1 : Int32) (i2 : Int32) (a1 : Nat → Int32) (a4 : Nat → Int32) (a5 : Nat → Int32) (x_2 : Int32) (self_J_1 : Int32 → Int32) : Int32 :=
  if x_2.toInt ≥ i2.toInt then f_x10_isThere_b_5 else (f_x10_isThere_b_7 u1 a1 a4 a5 x_2 self_J_1)
noncomputable def f_x10_isThere_j1 (u1 : Int32) (i2 : Int32) (a1 : Nat → Int32) (a4 : Nat → Int32) (a5 : Nat → Int32) (n : Nat) : Int32 → Int32 :=
  Nat.rec (motive := fun _ => Int32 → Int32) (fun _ => 0) (fun _ sq_ x_2 => f_x10_isThere_J_1 u1 i2 a1 a4 a5 x_2 sq_) n
noncomputable def F_x10_isThere (u1 : Int32) (i2 : Int32) (a1 : Nat → Int32) (a4 : Nat → Int32) (a5 : Nat → Int32) : Int32 :=
  f_x10_isThere_j1 u1 i2 a1 a4 a5 81 ((0 : Int32))
noncomputable def f_x10_put_b_6 (u0 : Int32) (u2 : Int32) (a5 : Nat → Int32) (a4_4 : Nat → Int32) : (Nat → Int32) × (Nat → Int32) :=
  let v_7 : Int32 := minI u2 ((12 : Int32))
  let z_12 : Int32 := v_7.toInt8.toInt32
  let a5_13 : Nat → Int32 := upd a5 u0.toNatClampNeg (vp_nar .byte z_12)
  (a4_4, a5_13)
noncomputable def f_x10_put_b_16 (u0 : Int32) (a1 : Nat → Int32) (x_2 : Int32) (a4_4 : Nat → Int32) (self_J_1 : Int32 → (Nat → Int32) → (Nat → Int32) × (Nat → Int32)) : (Nat → Int32) × (Nat → Int32) :=
  let z_17 : Int32 := u0 * (12 : Int32)
  let z_18 : Int32 := z_17 + x_2
  let z_19 : Int32 := a1 x_2.toNatClampNeg
  let z_20 : Int32 := z_19.toInt8.toInt32
  let a4_21 : Nat → Int32 := upd a4_4 z_18.toNatClampNeg (vp_nar .byte z_20)
  let z_22 : Int32 := x_2 + Int32.ofInt 1
  self_J_1 z_22 a4_21
noncomputable def f_x10_put_b_14 (u0 : Int32) (a1 : Nat → Int32) (x_2 : Int32) (a4_4 : Nat → Int32) (self_J_1 : Int32 → (Nat → Int32) → (Nat → Int32) × (Nat → Int32)) : (Nat → Int32) × (Nat → Int32) :=
  (f_x10_put_b_16 u0 a1 x_2 a4_4 self_J_1)
noncomputable def f_x10_put_J_1 (u0 : Int32) (u2 : Int32) (a1 : Nat → Int32) (a5 : Nat → Int32) (x_2 : Int32) (a4_4 : Nat → Int32) (self_J_1 : Int32 → (Nat → Int32) → (Nat → Int32) × (Nat → Int32)) : (Nat → Int32) × (Nat → Int32) :=
  if x_2.toInt ≥ u2.toInt then (f_x10_put_b_6 u0 u2 a5 a4_4) else (f_x10_put_b_14 u0 a1 x_2 a4_4 self_J_1)
noncomputable def f_x10_put_j1 (u0 : Int32) (u2 : Int32) (a1 : Nat → Int32) (a5 : Nat → Int32) (n : Nat) : Int32 → (Nat → Int32) → (Nat → Int32) × (Nat → Int32) :=
  Nat.rec (motive := fun _ => Int32 → (Nat → Int32) → (Nat → Int32) × (Nat → Int32)) (fun _ _ => ((fun _ => 0), (fun _ => 0))) (fun _ sq_ x_2 a4_4 => f_x10_put_J_1 u0 u2 a1 a5 x_2 a4_4 sq_) n
noncomputable def F_x10_put (u0 : Int32) (u2 : Int32) (a1 : Nat → Int32) (a4 : Nat → Int32) (a5 : Nat → Int32) : (Nat → Int32) × (Nat → Int32) :=
  f_x10_put_j1 u0 u2 a1 a5 13 ((0 : Int32)) a4
noncomputable def f_x10_enter_b_2 (i2 : Int32) (a4 : Nat → Int32) (a5 : Nat → Int32) : Int32 × Int32 × (Nat → Int32) × (Nat → Int32) :=
  ((-1 : Int32), i2, a4, a5)
noncomputable def f_x10_enter_b_11 (u1 : Int32) (i2 : Int32) (a1 : Nat → Int32) (a4 : Nat → Int32) (a5 : Nat → Int32) : Int32 × Int32 × (Nat → Int32) × (Nat → Int32) :=
  let z_12 : Int32 := i2 * (5 : Int32)
  let a4_16 : Nat → Int32 := (F_x10_put z_12 u1 a1 a4 a5).1
  let a5_17 : Nat → Int32 := (F_x10_put z_12 u1 a1 a4 a5).2
  let z_20 : Int32 := i2 + (1 : Int32)
  let z_21 : Int32 := z_20 - (1 : Int32)
  (z_21, z_20, a4_16, a5_17)
noncomputable def f_x10_enter_b_23 (i2 : Int32) (a4 : Nat → Int32) (a5 : Nat → Int32) : Int32 × Int32 × (Nat → Int32) × (Nat → Int32) :=
  ((-1 : Int32), i2, a4, a5)
noncomputable def f_x10_enter_b_4 (u1 : Int32) (i2 : Int32) (a1 : Nat → Int32) (a4 : Nat → Int32) (a5 : Nat → Int32) : Int32 × Int32 × (Nat → Int32) × (Nat → Int32) :=
  let v_5 : Int32 := (F_x10_isThere u1 i2 a1 a4 a5)
  if v_5.toInt = 0 then (f_x10_enter_b_11 u1 i2 a1 a4 a5) else (f_x10_enter_b_23 i2 a4 a5)
noncomputable def F_x10_enter (u1 : Int32) (i2 : Int32) (a1 : Nat → Int32) (a4 : Nat → Int32) (a5 : Nat → Int32) : Int32 × Int32 × (Nat → Int32) × (Nat → Int32) :=
  if i2.toInt ≥ 80 then (f_x10_enter_b_2 i2 a4 a5) else (f_x10_enter_b_4 u1 i2 a1 a4 a5)
noncomputable def f_x11_word_b_7 (i0 : Int32) (i2 : Int32) (a4 : Nat → Int32) (a5 : Nat → Int32) : Int32 × Int32 × Int32 × (Nat → Int32) × (Nat → Int32) :=
  ((-1 : Int32), i0, i2, a4, a5)
noncomputable def f_x11_word_b_30 (i0 : Int32) (v_17 : Int32) (i2_20 : Int32) (a4_21 : Nat → Int32) (a5_22 : Nat → Int32) : Int32 × Int32 × Int32 × (Nat → Int32) × (Nat → Int32) :=
  (v_17, i0, i2_20, a4_21, a5_22)
noncomputable def f_x11_word_b_32 (v_17 : Int32) (i2_20 : Int32) (a4_21 : Nat → Int32) (a5_22 : Nat → Int32) : Int32 × Int32 × Int32 × (Nat → Int32) × (Nat → Int32) :=
  (v_17, (0 : Int32), i2_20, a4_21, a5_22)
noncomputable def f_x11_word_b_16 (u0 : Int32) (i0 : Int32) (i2 : Int32) (a1 : Nat → Int32) (a4 : Nat → Int32) (a5 : Nat → Int32) : Int32 × Int32 × Int32 × (Nat → Int32) × (Nat → Int32) :=
  let v_17 : Int32 := (F_x10_enter u0 i2 a1 a4 a5).1
  let i2_20 : Int32 := (F_x10_enter u0 i2 a1 a4 a5).2.1
  let a4_21 : Nat → Int32 := (F_x10_enter u0 i2 a1 a4 a5).2.2.1
  let a5_22 : Nat → Int32 := (F_x10_enter u0 i2 a1 a4 a5).2.2.2
  if v_17.toInt = (-1) then (f_x11_word_b_30 i0 v_17 i2_20 a4_21 a5_22) else (f_x11_word_b_32 v_17 i2_20 a4_21 a5_22)
noncomputable def f_x11_word_b_34 (i0 : Int32) (i2 : Int32) (a4 : Nat → Int32) (a5 : Nat → Int32) : Int32 × Int32 × Int32 × (Nat → Int32) × (Nat → Int32) :=
  ((-1 : Int32), i0, i2, a4, a5)
noncomputable def f_x11_word_b_9 (u0 : Int32) (i0 : Int32) (i2 : Int32) (a1 : Nat → Int32) (a4 : Nat → Int32) (a5 : Nat → Int32) : Int32 × Int32 × Int32 × (Nat → Int32) × (Nat → Int32) :=
  let v_10 : Int32 := (F_x11_tapeHasLetters u0 a1)
  if v_10.toInt ≠ 0 then (f_x11_word_b_16 u0 i0 i2 a1 a4 a5) else (f_x11_word_b_34 i0 i2 a4 a5)
noncomputable def F_x11_word (u0 : Int32) (i0 : Int32) (i2 : Int32) (a1 : Nat → Int32) (a4 : Nat → Int32) (a5 : Nat → Int32) : Int32 × Int32 × Int32 × (Nat → Int32) × (Nat → Int32) :=
  let v_1 : Int32 := (F_x11_tapeHas u0 (12 : Int32) i0)
  if v_1.toInt = 0 then (f_x11_word_b_7 i0 i2 a4 a5) else (f_x11_word_b_9 u0 i0 i2 a1 a4 a5)
noncomputable def f_x11_isEdition_b_2  : Int32 :=
  (0 : Int32)
noncomputable def f_x11_isEdition_b_6  : Int32 :=
  (0 : Int32)
noncomputable def f_x11_isEdition_b_8  : Int32 :=
  (1 : Int32)
noncomputable def f_x11_isEdition_b_4 (u0 : Int32) : Int32 :=
  if u0.toInt ≥ 4 then f_x11_isEdition_b_6 else f_x11_isEdition_b_8
noncomputable def F_x11_isEdition (u0 : Int32) : Int32 :=
  if u0.toInt < 0 then f_x11_isEdition_b_2 else (f_x11_isEdition_b_4 u0)
noncomputable def f_x10_has_b_2  : Int32 :=
  (0 : Int32)
noncomputable def f_x10_has_b_6  : Int32 :=
  (0 : Int32)
noncomputable def f_x10_has_b_8  : Int32 :=
  (1 : Int32)
noncomputable def f_x10_has_b_4 (u0 : Int32) (i2 : Int32) : Int32 :=
  if u0.toInt ≥ i2.toInt then f_x10_has_b_6 else f_x10_has_b_8
noncomputable def F_x10_has (u0 : Int32) (i2 : Int32) : Int32 :=
  if u0.toInt < 0 then f_x10_has_b_2 else (f_x10_has_b_4 u0 i2)
noncomputable def f_x10_respell_b_7 (a4 : Nat → Int32) (a5 : Nat → Int32) : (Nat → Int32) × (Nat → Int32) :=
  (a4, a5)
noncomputable def f_x10_respell_b_14 (a4 : Nat → Int32) (a5 : Nat → Int32) : (Nat → Int32) × (Nat → Int32) :=
  (a4, a5)
noncomputable def f_x10_respell_b_15 (u0 : Int32) (u1 : Int32) (u3 : Int32) (a1 : Nat → Int32) (a4 : Nat → Int32) (a5 : Nat → Int32) : (Nat → Int32) × (Nat → Int32) :=
  let z_16 : Int32 := u1 * (5 : Int32)
  let z_17 : Int32 := z_16 + (1 : Int32)
  let z_18 : Int32 := z_17 + u0
  let a4_22 : Nat → Int32 := (F_x10_put z_18 u3 a1 a4 a5).1
  let a5_23 : Nat → Int32 := (F_x10_put z_18 u3 a1 a4 a5).2
  (a4_22, a5_23)
noncomputable def f_x10_respell_b_8 (u0 : Int32) (u1 : Int32) (u3 : Int32) (a1 : Nat → Int32) (a4 : Nat → Int32) (a5 : Nat → Int32) : (Nat → Int32) × (Nat → Int32) :=
  let v_9 : Int32 := (F_x11_isEdition u0)
  if v_9.toInt = 0 then (f_x10_respell_b_14 a4 a5) else (f_x10_respell_b_15 u0 u1 u3 a1 a4 a5)
noncomputable def F_x10_respell (u0 : Int32) (u1 : Int32) (u3 : Int32) (i2 : Int32) (a1 : Nat → Int32) (a4 : Nat → Int32) (a5 : Nat → Int32) : (Nat → Int32) × (Nat → Int32) :=
  let v_1 : Int32 := (F_x10_has u1 i2)
  if v_1.toInt = 0 then (f_x10_respell_b_7 a4 a5) else (f_x10_respell_b_8 u0 u1 u3 a1 a4 a5)
noncomputable def f_x11_spell_b_6 (i0 : Int32) (a4 : Nat → Int32) (a5 : Nat → Int32) : Int32 × Int32 × (Nat → Int32) × (Nat → Int32) :=
  ((0 : Int32), i0, a4, a5)
